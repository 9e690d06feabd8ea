/-! class and reference alike: a minute, a trip -/
def z_rg (g : Nat → Int32) : Prop := (∃ P : Nat, g 0 = nI P ∧ 5000 ≤ P ∧ P ≤ 11000) ∧ (∃ S : Nat, g 1 = nI S ∧ 9000 ≤ S ∧ S ≤ 10800) ∧ (-100000 ≤ (g 3).toInt ∧ (g 3).toInt ≤ 100000) ∧ (-100000 ≤ (g 9).toInt ∧ (g 9).toInt ≤ 100000) ∧
  (∃ T : Nat, g 10 = nI T ∧ 10 ≤ T ∧ T ≤ 500) ∧ (∃ L : Nat, g 11 = nI L ∧ 10 ≤ L ∧ L ≤ 200) ∧ (g 2 = 0 → g 14 = 0 ∧ g 13 = 0)
def z_inv (g : Nat → Int32) : Prop := z_ok g ∧ z_rg g
theorem m_alt_rg {P S : Nat} (hP : 5000 ≤ P ∧ P ≤ 11000) (hS : 5000 ≤ S ∧ S ≤ 11000) : -100000 ≤ (m_std (nI P) - m_std (nI S)).toInt ∧ (m_std (nI P) - m_std (nI S)).toInt ≤ 100000 := by
  have r1 := m_stdN_rng hP.1 hP.2
  have r2 := m_stdN_rng hS.1 hS.2
  rw [m_dif hP hS]
  omega
theorem z_rg_min {g : Nat → Int32} {p : Int32} {P : Nat} (hg : z_rg g) (hp : p = nI P) (hP : 5000 ≤ P ∧ P ≤ 11000) : z_rg (m_minC g p) := by
  obtain ⟨h0, ⟨S, h1, h1a, h1b⟩, h3, h9, ⟨T, h10, h10a, h10b⟩, h11, h2⟩ := hg
  have e0 : m_minC g p 0 = p := by simp [m_minC]
  have e2 : m_minC g p 2 = g 2 := by simp [m_minC]
  have e3 : m_minC g p 3 = g 3 := by simp [m_minC]
  have e10 : m_minC g p 10 = g 10 := by simp [m_minC]
  have e11 : m_minC g p 11 = g 11 := by simp [m_minC]
  unfold z_rg
  rw [e0, e2, e3, e10, e11]
  by_cases c : g 2 = 0
  · have e1 : m_minC g p 1 = g 1 := by simp [m_minC, c]
    have e9 : m_minC g p 9 = m_tb (g 9) (g 10) (m_std p - m_std (g 1)) := by simp [m_minC, c]
    have e13 : m_minC g p 13 = g 13 := by simp [m_minC, c]
    have e14 : m_minC g p 14 = g 14 := by simp [m_minC, c]
    rw [e1, e9, e13, e14]
    refine ⟨⟨P, hp, hP⟩, ⟨S, h1, h1a, h1b⟩, h3, ?_, ⟨T, h10, h10a, h10b⟩, h11, h2⟩
    have r := m_alt_rg hP (S := S) (by omega)
    rw [hp, h1]
    unfold m_tb
    split
    · exact r
    · split
      · exact r
      · exact h9
  · have e1 : m_minC g p 1 = m_near p (g 3) := by simp [m_minC, c]
    have e9 : m_minC g p 9 = g 9 := by simp [m_minC, c]
    rw [e1, e9, hp]
    exact ⟨⟨P, rfl, hP⟩, m_near_rg hP h3, h3, h9, ⟨T, h10, h10a, h10b⟩, h11, fun z => absurd z c⟩
theorem z_inv_min {g : Nat → Int32} {p : Int32} {P : Nat} (hg : z_inv g) (hp : p = nI P) (hP : 5000 ≤ P ∧ P ≤ 11000) : z_inv (m_minC g p) := ⟨z_ok_min hg.1, z_rg_min hg.2 hp hP⟩
/-! the log -/
theorem m_fm_mx {sv f : Nat → Int32} {b : Nat} : ∀ n, (∀ k, k < n → sv (b + 15 + k) = f k) → m_fmM sv b n = m_mx f 0 n
  | 0, _ => rfl
  | n + 1, h => by
    rw [m_fmM, m_mx, m_fm_mx n (fun k hk => h k (by omega)), h n (by omega), Nat.zero_add]
theorem m_fall_eq {sv f : Nat → Int32} {b n : Nat} (h : ∀ k, k < n → sv (b + 15 + k) = f k) : m_fallM sv b n = m_fall n f := by
  unfold m_fallM m_fall
  by_cases c : n = 0
  · subst c
    rw [if_pos rfl, if_pos rfl]
    show (0 : Int32) = 0 - 0
    decide
  · rw [if_neg c, if_neg c, m_fm_mx n h, show b + 15 + n - 1 = b + 15 + (n - 1) by omega, h (n - 1) (by omega)]
theorem m_al_eq {sv f : Nat → Int32} {b n : Nat} (h : ∀ k, k < n → sv (b + 15 + k) = f k) : m_alM sv b n = m_al n f (sv (b + 11)) := by
  unfold m_alM m_al
  rw [m_fall_eq h]
theorem m_sh_in {sv : Nat → Int32} {b k : Nat} : ∀ j, k < j → m_sh sv b j (b + 15 + k) = sv (b + 15 + k + 1)
  | 0, h => absurd h (by omega)
  | j + 1, h => by
    rw [m_sh]
    by_cases e : k = j
    · subst e
      rw [show b + 15 + (k + 1) - 1 = b + 15 + k by omega, pk_us, m_sh_hi _ (by omega)]
      rfl
    · rw [pk_un (by omega)]
      exact m_sh_in j (by omega)
theorem m_lgA_in {sv : Nat → Int32} {b m k : Nat} (hk : k < 60) : m_lgA sv b m (b + 15 + k) = if k = m_lgC m then sv (b + 0) else if m = 60 then (if k < 59 then sv (b + 15 + k + 1) else sv (b + 15 + k)) else sv (b + 15 + k) := by
  unfold m_lgA
  rw [pk_un (by omega)]
  by_cases c : k = m_lgC m
  · rw [if_pos c, ← c, pk_us]
  · rw [if_neg c, pk_un (by omega), pk_un (by omega)]
    unfold m_lgT
    by_cases d : m = 60
    · rw [if_pos d, if_pos d]
      by_cases q : k < 59
      · rw [if_pos q, m_sh_in _ q]
      · rw [if_neg q, m_sh_hi _ (by omega)]
    · rw [if_neg d, if_neg d]
theorem m_lf_in {f : Nat → Int32} {p : Int32} {m k : Nat} (hm : m ≤ 60) (hk : k < 60) : m_lf (nI m) f p k = if k = m_lgC m then p else if m = 60 then (if k < 59 then f (k + 1) else f k) else f k := by
  unfold m_lf m_lgC
  by_cases c : m = 60
  · subst c
    rw [if_neg (by decide), if_pos rfl, if_pos rfl]
    unfold upd m_up
    by_cases d : k = 59
    · rw [if_pos d, if_pos d]
    · rw [if_neg d, if_neg d, if_pos (by omega), if_pos (by omega)]
  · rw [if_pos (show nI m < (60 : Int32) from nI_lt (a := m) (b := 60) (by omega) (by decide)), if_neg c, if_neg c, nI_clamp (by omega)]
    rfl
theorem m_wn_lg {m : Nat} (h : m ≤ 60) : m_lgC m + 1 = m_wn m := by
  unfold m_lgC m_wn
  by_cases c : m = 60
  · subst c; rfl
  · rw [if_neg c, if_pos (by omega)]
theorem m_log_at {g : Nat → Int32} {k : Nat} (h : k < 60) : m_log g k = g (k + 15) := z_tr_lt h
/-! a minute in the station mode -/
section MINST
variable {sv g : Nat → Int32} {b : Nat} {p : Int32}
theorem m_s1 (h : ∀ i, i < 116 → sv (b + i) = g i) (p : Int32) {i : Nat} (hi : i < 116) : m_mp1 sv b p (b + i) = if i = 0 then p else if i = 4 then g 4 + 1 else g i := by
  unfold m_mp1
  by_cases c : i = 0
  · subst c
    rw [pk_un (by omega), pk_us]
    rfl
  · rw [if_neg c]
    by_cases d : i = 4
    · subst d
      rw [pk_us, h 4 (by decide)]
      rfl
    · rw [if_neg d, pk_un (by omega), pk_un (by omega), h i hi]
theorem m_min_st (h : ∀ i, i < 116 → sv (b + i) = g i) (hg : z_ok g) (h2 : g 2 = 1) {P : Nat} (hp : p = nI P) (hP : 5000 ≤ P ∧ P ≤ 11000) (h3 : -100000 ≤ (g 3).toInt ∧ (g 3).toInt ≤ 100000) {i : Nat} (hi : i < 116) : m_minA sv b (m_n (sv (b + 14))) p (b + i) = m_minC g p i := by
  obtain ⟨⟨e14, l14⟩, h75, -, -⟩ := hg
  have n2 : ¬ g 2 = 0 := by rw [h2]; decide
  rw [h 14 (by decide)]
  obtain ⟨m, hm⟩ : ∃ m, m = m_n (g 14) := ⟨_, rfl⟩
  rw [← hm] at e14 l14 ⊢
  obtain ⟨Sx, hS⟩ : ∃ S, S = upd (m_mp1 sv b p) (b + 1) (m_bst (m_mp1 sv b p (b + 0)) (sv (b + 3))) := ⟨_, rfl⟩
  have eS : ∀ j, j < 116 → Sx (b + j) = if j = 1 then m_near p (g 3) else if j = 0 then p else if j = 4 then g 4 + 1 else g j := by
    intro j hj
    rw [hS]
    by_cases c : j = 1
    · subst c
      rw [pk_us, m_s1 h p (by decide), h 3 (by decide), if_pos rfl, if_pos rfl, hp]
      exact m_near_bst hP h3
    · rw [pk_un (by omega), if_neg c]
      exact m_s1 h p hj
  have e2 : m_mp2 sv b m p = m_lgA Sx b m := by
    unfold m_mp2
    rw [if_pos (by rw [h 2 (by decide)]; exact h2), hS]
  have en : m_mpn sv b m = m_wn m := by
    unfold m_mpn
    rw [if_pos (by rw [h 2 (by decide)]; exact h2), m_wn_lg l14]
  have eL : ∀ k, k < 60 → m_lgA Sx b m (b + 15 + k) = m_lf (g 14) (m_log g) p k := by
    intro k hk
    rw [m_lgA_in hk, e14, m_lf_in l14 hk]
    rw [show Sx (b + 0) = p from by rw [eS 0 (by decide)]; rfl]
    by_cases c : k = m_lgC m
    · rw [if_pos c, if_pos c]
    · rw [if_neg c, if_neg c]
      by_cases d : m = 60
      · rw [if_pos d, if_pos d]
        by_cases q : k < 59
        · rw [if_pos q, if_pos q, show b + 15 + k + 1 = b + (15 + k + 1) by omega, eS _ (by omega), if_neg (by omega), if_neg (by omega), if_neg (by omega), m_log_at (by omega)]
          congr 1
          omega
        · rw [if_neg q, if_neg q, show b + 15 + k = b + (15 + k) by omega, eS _ (by omega), if_neg (by omega), if_neg (by omega), if_neg (by omega), m_log_at (by omega)]
          congr 1
          omega
      · rw [if_neg d, if_neg d, show b + 15 + k = b + (15 + k) by omega, eS _ (by omega), if_neg (by omega), if_neg (by omega), if_neg (by omega), m_log_at (by omega)]
        congr 1
        omega
  have hw60 : m_wn m ≤ 60 := by unfold m_wn; split <;> omega
  have e11 : m_lgA Sx b m (b + 11) = g 11 := by
    rw [m_lgA_out l14 (by omega), eS 11 (by decide), if_neg (by decide), if_neg (by decide), if_neg (by decide)]
  have ea : m_mpa sv b m p = m_al (m_wn m) (m_lf (g 14) (m_log g) p) (g 11) := by
    unfold m_mpa
    rw [e2, en, m_al_eq (f := m_lf (g 14) (m_log g) p) (fun k hk => eL k (by omega)), e11]
  have e12 : m_lgA Sx b m (b + 12) = g 12 := by
    rw [m_lgA_out l14 (by omega), eS 12 (by decide), if_neg (by decide), if_neg (by decide), if_neg (by decide)]
  have e13 : m_lgA Sx b m (b + 13) = g 13 := by
    rw [m_lgA_out l14 (by omega), eS 13 (by decide), if_neg (by decide), if_neg (by decide), if_neg (by decide)]
  unfold m_minA m_minC
  rw [← hm]
  by_cases c13 : i = 13
  · subst c13
    rw [pk_us, ea, if_neg (by decide), if_neg (by decide), if_neg n2, if_neg (by decide), if_neg (by decide), if_neg (by decide), if_pos rfl]
  · rw [pk_un (by omega)]
    by_cases c12 : i = 12
    · subst c12
      rw [pk_us, e2, e12, if_neg (by decide), if_neg (by decide), if_neg n2, if_neg (by decide), if_neg (by decide), if_pos rfl]
      unfold m_mpk m_bg
      rw [ea, e2, e13]
      by_cases a0 : m_al (m_wn m) (m_lf (g 14) (m_log g) p) (g 11) = 0
      · rw [if_pos a0, if_pos a0, Int32.add_zero]
      · rw [if_neg a0, if_neg a0]
        by_cases w0 : g 13 = 0
        · rw [if_pos w0, if_pos w0]
        · rw [if_neg w0, if_neg w0, Int32.add_zero]
    · rw [pk_un (by omega), e2]
      by_cases c14 : i = 14
      · subst c14
        rw [m_lgA_14, if_neg (by decide), if_neg (by decide), if_neg n2, if_neg (by decide), if_pos rfl, m_wn_lg l14, e14, m_ln_nI l14]
        rfl
      · by_cases cl : 15 ≤ i ∧ i < 75
        · rw [if_neg (by omega), if_neg (by omega), if_neg n2, if_neg (by omega), if_neg c14, if_neg c12, if_neg c13, if_pos cl]
          have := eL (i - 15) (by omega)
          rw [show b + 15 + (i - 15) = b + i by omega] at this
          exact this
        · rw [m_lgA_out l14 (by omega), eS i hi]
          by_cases c1 : i = 1
          · subst c1
            rw [if_pos rfl, if_neg (by decide), if_neg (by decide), if_neg n2, if_pos rfl]
          · rw [if_neg c1]
            by_cases c0 : i = 0
            · rw [if_pos c0, if_pos c0]
            · rw [if_neg c0, if_neg c0]
              by_cases c4 : i = 4
              · rw [if_pos c4, if_pos c4]
              · rw [if_neg c4, if_neg c4, if_neg n2, if_neg c1, if_neg c14, if_neg c12, if_neg c13, if_neg cl]
/-! .. in the moving mode -/
theorem m_min_mv (h : ∀ i, i < 116 → sv (b + i) = g i) (h2 : g 2 = 0) (h14 : g 14 = 0) (h13 : g 13 = 0) {P S T L : Nat} (hp : p = nI P) (hP : 5000 ≤ P ∧ P ≤ 11000) (hs : g 1 = nI S) (hS : 9000 ≤ S ∧ S ≤ 10800) (h9 : -100000 ≤ (g 9).toInt ∧ (g 9).toInt ≤ 100000) (h10 : g 10 = nI T) (hT : 10 ≤ T ∧ T ≤ 500) (h11 : g 11 = nI L) (hL : 10 ≤ L ∧ L ≤ 200) {i : Nat} (hi : i < 116) : m_minA sv b (m_n (sv (b + 14))) p (b + i) = m_minC g p i := by
  have en : m_n (sv (b + 14)) = 0 := by rw [h 14 (by decide), h14]; decide
  have n1 : ¬ sv (b + 2) = 1 := by rw [h 2 (by decide), h2]; decide
  rw [en]
  have e2 : m_mp2 sv b 0 p = m_clA (m_mp1 sv b p) b := by
    unfold m_mp2
    rw [if_neg n1]
  have e1 := fun j hj => m_s1 h p (i := j) hj
  have ea : m_mpa sv b 0 p = 0 := by
    have v11 : m_mp1 sv b p (b + 11) = g 11 := by rw [e1 11 (by decide)]; rfl
    have vn : m_mpn sv b 0 = 0 := by unfold m_mpn; rw [if_neg n1]
    have vf : m_fallM (m_mp2 sv b 0 p) b (m_mpn sv b 0) = 0 := by unfold m_fallM; rw [if_pos vn]
    have vl : m_mp2 sv b 0 p (b + 11) = nI L := by rw [e2, m_clA_out (by omega) (by omega) (by omega), v11, h11]
    unfold m_mpa m_alM
    rw [vf, vl]
    exact if_neg (nI_nle (by omega) (by omega))
  have ek : m_mpk sv b 0 p = 0 := by unfold m_mpk; rw [if_pos ea]
  obtain ⟨y, hy⟩ : ∃ y, y = m_std p - m_std (g 1) - g 9 := ⟨_, rfl⟩
  have ec : m_clA (m_mp1 sv b p) b = m_clB (m_mp1 sv b p) b y := by
    unfold m_clA
    rw [e1 0 (by decide), e1 1 (by decide), e1 9 (by decide), hy]
    rfl
  have rx := m_alt_rg hP (S := S) (by omega)
  rw [← hp, ← hs] at rx
  have cl := m_cl_eq (a := g 7) (d := g 8) h9 rx h10 (by omega) (by omega)
  rw [← hy] at cl
  unfold m_minA m_minC
  rw [ea, ek, e2, ec]
  by_cases c13 : i = 13
  · subst c13
    rw [pk_us, if_neg (by decide), if_neg (by decide), if_pos h2, if_neg (by decide), if_neg (by decide), if_neg (by decide), h13]
  · rw [pk_un (by omega), Int32.add_zero]
    have e12 : upd (m_clB (m_mp1 sv b p) b y) (b + 12) (m_clB (m_mp1 sv b p) b y (b + 12)) (b + i) = m_clB (m_mp1 sv b p) b y (b + i) := by
      by_cases c : i = 12
      · subst c; exact pk_us
      · exact pk_un (by omega)
    rw [e12]
    unfold m_clB
    have v10 : m_mp1 sv b p (b + 10) = g 10 := by rw [e1 10 (by decide)]; rfl
    have v7 : m_mp1 sv b p (b + 7) = g 7 := by rw [e1 7 (by decide)]; rfl
    have v8 : m_mp1 sv b p (b + 8) = g 8 := by rw [e1 8 (by decide)]; rfl
    have v9 : m_mp1 sv b p (b + 9) = g 9 := by rw [e1 9 (by decide)]; rfl
    rw [v10, v7, v8, v9]
    by_cases q : g 10 ≤ m_abs y
    · obtain ⟨k1, k2, k3⟩ := cl.1 q
      rw [if_pos q]
      generalize (g 7 + if 0 < y then y else 0) = u7 at k2 ⊢
      generalize (g 8 + if y < 0 then -y else 0) = u8 at k3 ⊢
      rw [k1, k2, k3]
      by_cases c9 : i = 9
      · subst c9
        rw [pk_us, if_neg (by decide), if_neg (by decide), if_pos h2, if_pos rfl]
      · rw [pk_un (by omega)]
        by_cases c8 : i = 8
        · subst c8
          rw [pk_us, if_neg (by decide), if_neg (by decide), if_pos h2, if_neg (by decide), if_neg (by decide), if_pos rfl]
        · rw [pk_un (by omega)]
          by_cases c7 : i = 7
          · subst c7
            rw [pk_us, if_neg (by decide), if_neg (by decide), if_pos h2, if_neg (by decide), if_pos rfl]
          · rw [pk_un (by omega), e1 i hi, if_pos h2, if_neg c9, if_neg c7, if_neg c8]
    · obtain ⟨k1, k2, k3⟩ := cl.2 q
      rw [if_neg q, k1, k2, k3, e1 i hi, if_pos h2]
      by_cases c9 : i = 9
      · subst c9; rfl
      · rw [if_neg c9]
        by_cases c7 : i = 7
        · subst c7; rfl
        · rw [if_neg c7]
          by_cases c8 : i = 8
          · subst c8; rfl
          · rw [if_neg c8]
end MINST
theorem m_min_eq {sv g : Nat → Int32} {b P : Nat} {p : Int32} (h : ∀ i, i < 116 → sv (b + i) = g i) (hg : z_inv g) (hp : p = nI P) (hP : 5000 ≤ P ∧ P ≤ 11000) {i : Nat} (hi : i < 116) : m_minA sv b (m_n (sv (b + 14))) p (b + i) = m_minC g p i := by
  obtain ⟨hok, h0, ⟨S, h1, hS⟩, h3, h9, ⟨T, h10, hT⟩, ⟨L, h11, hL⟩, h2⟩ := hg
  rcases hok.2.2.1 with c | c
  · exact m_min_mv h c (h2 c).1 (h2 c).2 hp hP h1 hS h9 h10 hT h11 hL hi
  · exact m_min_st h hok c hp hP h3 hi
/-- a trip -/
theorem m_trip_eq {sv g : Nat → Int32} {b Pe nn : Nat} {n p : Int32} (h : ∀ i, i < 116 → sv (b + i) = g i) (hg : z_inv g) (hn : n = nI nn) (hn1 : 1 ≤ nn) (hn2 : nn ≤ 120) (hp : p = nI Pe) (hP : 5000 ≤ Pe ∧ Pe ≤ 11000) : ∀ k, k ≤ nn → z_inv (m_tripC g n p k) ∧ ∀ i, i < 116 → m_trA sv b n p k (b + i) = m_tripC g n p k i
  | 0, _ => ⟨hg, h⟩
  | k + 1, hk => by
    obtain ⟨ih1, ih2⟩ := m_trip_eq h hg hn hn1 hn2 hp hP k (by omega)
    obtain ⟨P, e0, hP0⟩ := hg.2.1
    obtain ⟨Q, eQ, hQ⟩ := m_way_rg (A := P) (B := Pe) (k := k + 1) (n := nn) hP0 hP hk hn1 hn2
    have e00 : sv (b + 0) = g 0 := h 0 (by decide)
    have eW : m_way (g 0) p (nI (k + 1)) n = nI Q := by rw [e0, hp, hn]; exact eQ
    rw [m_tripC, eW]
    refine ⟨z_inv_min ih1 rfl hQ, fun i hi => ?_⟩
    rw [m_trA, e00, eW]
    exact m_min_eq ih2 ih1 rfl hQ hi
theorem m_trA_out {sv : Nat → Int32} {b m x : Nat} {n p : Int32} (hm : sv (b + 14) = nI m) (hm6 : m ≤ 60) (hx : x < b ∨ b + 75 ≤ x) : ∀ k, m_trA sv b n p k x = sv x
  | 0 => rfl
  | k + 1 => by
    rw [m_trA, m_minA_out (m_tr14 (n := n) (p := p) hm hm6 k).2 hx]
    exact m_trA_out hm hm6 hx k
/-! what stays in a trip -/
theorem m_trip_st {g : Nat → Int32} {n p : Int32} : ∀ k, m_tripC g n p k 2 = g 2 ∧ m_tripC g n p k 3 = g 3 ∧ m_tripC g n p k 10 = g 10 ∧ (g 2 = 0 → m_tripC g n p k 1 = g 1) ∧ (¬ g 2 = 0 → m_tripC g n p k 7 = g 7)
  | 0 => ⟨rfl, rfl, rfl, fun _ => rfl, fun _ => rfl⟩
  | k + 1 => by
    obtain ⟨a, b, c, d, e⟩ := m_trip_st (g := g) (n := n) (p := p) k
    rw [m_tripC]
    refine ⟨?_, ?_, ?_, fun z => ?_, fun z => ?_⟩
    · rw [← a]; simp [m_minC]
    · rw [← b]; simp [m_minC]
    · rw [← c]; simp [m_minC]
    · rw [← d z]; simp [m_minC, a, z]
    · rw [← e z]; simp [m_minC, a, z]
theorem m_hat_eq {g : Nat → Int32} {nn Pe : Nat} {n p : Int32} (hg : z_inv g) (hn : n = nI nn) (hn1 : 1 ≤ nn) (hn2 : nn ≤ 120) (hp : p = nI Pe) (hP : 5000 ≤ Pe ∧ Pe ≤ 11000) : m_std (m_tripC g n p nn 0) - m_std (m_tripC g n p nn 1) = m_hatC g p := by
  obtain ⟨k, rfl⟩ : ∃ k, nn = k + 1 := ⟨nn - 1, by omega⟩
  obtain ⟨P, e0, hP0⟩ := hg.2.1
  have eW : m_way (g 0) p (nI (k + 1)) n = p := by rw [e0, hp, hn]; exact m_way_end hP0 hP hn1 hn2
  obtain ⟨a, b, -, d, -⟩ := m_trip_st (g := g) (n := n) (p := p) k
  rw [m_tripC, eW]
  have f0 : m_minC (m_tripC g n p k) p 0 = p := by simp [m_minC]
  have f1 : m_minC (m_tripC g n p k) p 1 = if g 2 = 0 then g 1 else m_near p (g 3) := by
    by_cases z : g 2 = 0
    · rw [if_pos z, ← d z]; simp [m_minC, a, z]
    · rw [if_neg z]; simp [m_minC, a, b, z]
  rw [f0, f1, m_hatC]
theorem m_asc_eq {g : Nat → Int32} {n p : Int32} (nn : Nat) : m_tripC g n p nn 7 - g 7 = m_ascR g n p nn := by
  unfold m_ascR
  by_cases z : g 2 = 0
  · rw [if_pos z]
    have key : ∀ k, m_tripC g n p k 9 = (m_ascC g n p k).1 ∧ m_tripC g n p k 7 = (m_ascC g n p k).2.1 := by
      intro k
      induction k with
      | zero => exact ⟨rfl, rfl⟩
      | succ k ih =>
        obtain ⟨a, b, c, d, -⟩ := m_trip_st (g := g) (n := n) (p := p) k
        have d' := d z
        rw [z] at a
        rw [m_tripC, m_ascC]
        refine ⟨?_, ?_⟩
        · rw [← ih.1, ← c, ← d']; simp [m_minC, a]
        · rw [← ih.1, ← ih.2, ← c, ← d']; simp [m_minC, a]
    rw [(key nn).2]
  · rw [if_neg z, (m_trip_st nn).2.2.2.2 z, Int32.sub_self]
