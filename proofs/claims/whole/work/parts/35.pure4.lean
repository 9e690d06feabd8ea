/-! class and reference alike: the settings, marks, calibrations; the saved states -/
theorem z_inv_g0 : z_inv m_g0 := by
  refine ⟨⟨⟨by decide, by decide⟩, ⟨by decide, by decide⟩, Or.inl rfl, Or.inl rfl⟩, ⟨10132, rfl, by decide, by decide⟩, ⟨10132, rfl, by decide, by decide⟩, ⟨by decide, by decide⟩, ⟨by decide, by decide⟩, ⟨50, rfl, by decide, by decide⟩, ⟨40, rfl, by decide, by decide⟩, fun _ => ⟨rfl, rfl⟩⟩
theorem z_alt_rg {g : Nat → Int32} (hg : z_rg g) : -100000 ≤ (m_std (g 0) - m_std (g 1)).toInt ∧ (m_std (g 0) - m_std (g 1)).toInt ≤ 100000 := by
  obtain ⟨⟨P, h0, hP⟩, ⟨S, h1, hS⟩, -⟩ := hg
  rw [h0, h1]
  exact m_alt_rg hP (by omega)
section OPS
variable {sv g : Nat → Int32}
theorem m_sw_eq (h : ∀ i, i < 116 → sv i = g i) {on : Int32} (hon : on = 0 ∨ on = 1) (hne : ¬ g 2 = on) {i : Nat} (hi : i < 116) : m_swA sv on i = m_swC g on i := by
  unfold m_swA m_swC
  rw [if_neg hne, h 0 (by decide), h 1 (by decide)]
  rcases hon with q | q
  · subst q
    rw [if_pos rfl, if_pos rfl]
    by_cases c9 : i = 9
    · subst c9; rw [pk_us, if_neg (by decide), if_neg (by decide), if_neg (by decide), if_pos rfl]
    · rw [pk_un c9, if_neg c9]
      by_cases c13 : i = 13
      · subst c13; rw [pk_us, if_neg (by decide), if_neg (by decide), if_pos rfl]
      · rw [pk_un c13]
        by_cases c14 : i = 14
        · subst c14; rw [pk_us, if_neg (by decide), if_pos rfl]
        · rw [pk_un c14, if_neg c14, if_neg c13]
          by_cases c2 : i = 2
          · subst c2; rw [pk_us, if_pos rfl]
          · rw [pk_un c2, if_neg c2, h i hi]
  · subst q
    rw [if_neg (show ¬ (1 : Int32) = 0 by decide), if_neg (show ¬ (1 : Int32) = 0 by decide)]
    by_cases c3 : i = 3
    · subst c3; rw [pk_us, if_neg (by decide), if_neg (by decide), if_neg (by decide), if_pos rfl]
    · rw [pk_un c3, if_neg c3]
      by_cases c13 : i = 13
      · subst c13; rw [pk_us, if_neg (by decide), if_neg (by decide), if_pos rfl]
      · rw [pk_un c13]
        by_cases c14 : i = 14
        · subst c14; rw [pk_us, if_neg (by decide), if_pos rfl]
        · rw [pk_un c14, if_neg c14, if_neg c13]
          by_cases c2 : i = 2
          · subst c2; rw [pk_us, if_pos rfl]
          · rw [pk_un c2, if_neg c2, h i hi]
theorem m_swA_hi {on : Int32} {x : Nat} (hx : 116 ≤ x) : m_swA sv on x = sv x := by
  unfold m_swA
  rw [pk_un (by split <;> omega), pk_un (by omega), pk_un (by omega), pk_un (by omega)]
theorem z_inv_sw {on : Int32} (hg : z_inv g) (hon : on = 0 ∨ on = 1) : z_inv (m_swC g on) := by
  refine ⟨z_ok_sw hg.1 hon, ?_⟩
  by_cases hne : g 2 = on
  · have e : m_swC g on = g := by funext i; rw [m_swC, if_pos hne]
    rw [e]; exact hg.2
  · have ra := z_alt_rg hg.2
    obtain ⟨h0, h1, h3, h9, h10, h11, h2⟩ := hg.2
    have e0 : m_swC g on 0 = g 0 := by simp [m_swC, hne]
    have e1 : m_swC g on 1 = g 1 := by simp [m_swC, hne]
    have e10 : m_swC g on 10 = g 10 := by simp [m_swC, hne]
    have e11 : m_swC g on 11 = g 11 := by simp [m_swC, hne]
    have e13 : m_swC g on 13 = 0 := by simp [m_swC, hne]
    have e14 : m_swC g on 14 = 0 := by simp [m_swC, hne]
    have e3 : m_swC g on 3 = if on = 0 then g 3 else m_std (g 0) - m_std (g 1) := by simp [m_swC, hne]
    have e9 : m_swC g on 9 = if on = 0 then m_std (g 0) - m_std (g 1) else g 9 := by simp [m_swC, hne]
    unfold z_rg
    rw [e0, e1, e10, e11, e13, e14, e3, e9]
    refine ⟨h0, h1, ?_, ?_, h10, h11, fun _ => ⟨rfl, rfl⟩⟩
    · by_cases z : on = 0
      · rw [if_pos z]; exact h3
      · rw [if_neg z]; exact ra
    · by_cases z : on = 0
      · rw [if_pos z]; exact ra
      · rw [if_neg z]; exact h9
theorem m_sea_eq (h : ∀ i, i < 116 → sv i = g i) (h2 : g 2 = 0 ∨ g 2 = 1) {v : Int32} {i : Nat} (hi : i < 116) : m_stA (upd sv 1 v) i = m_seaC g v i := by
  unfold m_stA m_seaC
  have u0 : upd sv 1 v 0 = g 0 := by rw [pk_un (by decide), h 0 (by decide)]
  have u1 : upd sv 1 v 1 = v := pk_us
  have u2 : upd sv 1 v 2 = g 2 := by rw [pk_un (by decide), h 2 (by decide)]
  have u3 : upd sv 1 v 3 = g 3 := by rw [pk_un (by decide), h 3 (by decide)]
  rw [u0, u1, u2, u3]
  by_cases c9 : i = 9
  · subst c9; rw [pk_us, if_neg (by decide), if_pos rfl]
  · rw [pk_un c9, if_neg c9]
    by_cases c3 : i = 3
    · subst c3
      rw [pk_us, if_neg (show ¬ (3 : Nat) = 1 by decide), if_pos (rfl : (3 : Nat) = 3)]
      rcases h2 with q | q
      · rw [q, if_neg (show ¬ (0 : Int32) = 1 by decide), if_pos rfl]
      · rw [q, if_pos rfl, if_neg (show ¬ (1 : Int32) = 0 by decide)]
    · rw [pk_un c3, if_neg c3]
      by_cases c1 : i = 1
      · subst c1; rw [pk_us, if_pos rfl]
      · rw [pk_un c1, if_neg c1, h i hi]
theorem m_stA_hi {v : Int32} {x : Nat} (hx : 116 ≤ x) : m_stA (upd sv 1 v) x = sv x := by
  unfold m_stA
  rw [pk_un (by omega), pk_un (by omega), pk_un (by omega)]
theorem z_rg_sea {v : Int32} {S : Nat} (hg : z_rg g) (hv : v = nI S) (hS : 9000 ≤ S ∧ S ≤ 10800) : z_rg (m_seaC g v) := by
  obtain ⟨⟨P, h0, hP⟩, h1, h3, h9, h10, h11, h2⟩ := hg
  have ra := m_alt_rg hP (S := S) (by omega)
  rw [← h0, ← hv] at ra
  have e0 : m_seaC g v 0 = g 0 := by simp [m_seaC]
  have e1 : m_seaC g v 1 = v := by simp [m_seaC]
  have e2 : m_seaC g v 2 = g 2 := by simp [m_seaC]
  have e10 : m_seaC g v 10 = g 10 := by simp [m_seaC]
  have e11 : m_seaC g v 11 = g 11 := by simp [m_seaC]
  have e13 : m_seaC g v 13 = g 13 := by simp [m_seaC]
  have e14 : m_seaC g v 14 = g 14 := by simp [m_seaC]
  have e3 : m_seaC g v 3 = if g 2 = 0 then g 3 else m_std (g 0) - m_std v := by simp [m_seaC]
  have e9 : m_seaC g v 9 = m_std (g 0) - m_std v := by simp [m_seaC]
  unfold z_rg
  rw [e0, e1, e2, e10, e11, e13, e14, e3, e9]
  refine ⟨⟨P, h0, hP⟩, ⟨S, hv, hS⟩, ?_, ra, h10, h11, h2⟩
  split
  · exact h3
  · exact ra
theorem m_cal_eq (h : ∀ i, i < 116 → sv i = g i) (hg : z_inv g) {a : Int32} (ha : -100000 ≤ a.toInt ∧ a.toInt ≤ 100000) {i : Nat} (hi : i < 116) : m_caA sv a i = m_calC g a i := by
  obtain ⟨P, h0, hP⟩ := hg.2.1
  have et : ∀ j, j < 116 → m_caT sv a j = m_seaC g (m_near (g 0) a) j := by
    intro j hj
    unfold m_caT
    rw [show (0 + 1 : Nat) = 1 from rfl, show (0 + 0 : Nat) = 0 from rfl, h 0 (by decide), h0, m_near_bst hP ha, ← h0]
    exact m_sea_eq h hg.1.2.2.1 hj
  unfold m_caA m_calC
  rw [et 5 (by decide), et 6 (by decide), show (0 + 1 : Nat) = 1 from rfl, show (0 + 0 : Nat) = 0 from rfl, h 0 (by decide), h 1 (by decide)]
  have s5 : m_seaC g (m_near (g 0) a) 5 = g 5 := by simp [m_seaC]
  have s6 : m_seaC g (m_near (g 0) a) 6 = g 6 := by simp [m_seaC]
  rw [s5, s6]
  by_cases c6 : i = 6
  · subst c6; rw [pk_us, if_neg (by decide), if_pos rfl]
  · rw [pk_un c6, if_neg c6]
    by_cases c5 : i = 5
    · subst c5; rw [pk_us, if_pos rfl]
    · rw [pk_un c5, if_neg c5, et i hi]
theorem m_caA_hi {a : Int32} {x : Nat} (hx : 116 ≤ x) : m_caA sv a x = sv x := by
  unfold m_caA m_caT
  rw [pk_un (by omega), pk_un (by omega)]
  exact m_stA_hi hx
theorem z_inv_cal {a : Int32} (hg : z_inv g) (ha : -100000 ≤ a.toInt ∧ a.toInt ≤ 100000) : z_inv (m_calC g a) := by
  refine ⟨z_ok_cal hg.1, ?_⟩
  obtain ⟨P, h0, hP⟩ := hg.2.1
  obtain ⟨S, hS, hS2⟩ := m_near_rg hP ha
  rw [← h0] at hS
  have hr := z_rg_sea hg.2 hS hS2
  have e : ∀ i, i ≠ 5 → i ≠ 6 → m_calC g a i = m_seaC g (m_near (g 0) a) i := by
    intro i h5 h6
    unfold m_calC
    rw [if_neg h5, if_neg h6]
  unfold z_rg at hr ⊢
  rw [e 0 (by decide) (by decide), e 1 (by decide) (by decide), e 2 (by decide) (by decide), e 3 (by decide) (by decide), e 9 (by decide) (by decide), e 10 (by decide) (by decide), e 11 (by decide) (by decide), e 13 (by decide) (by decide), e 14 (by decide) (by decide)]
  exact hr
theorem z_inv_sea {v : Int32} {S : Nat} (hg : z_inv g) (hv : v = nI S) (hS : 9000 ≤ S ∧ S ≤ 10800) : z_inv (m_seaC g v) := ⟨z_ok_sea hg.1, z_rg_sea hg.2 hv hS⟩
/-! marks -/
theorem m_s4_hi {y : Nat} : ∀ j, 76 + j ≤ y → m_s4 sv j y = sv y
  | 0, _ => rfl
  | j + 1, h => by
    rw [m_s4, pk_un (by omega)]
    exact m_s4_hi j (by omega)
theorem m_s4_in {x : Nat} : ∀ j, x < j → m_s4 sv j (76 + x) = sv (76 + x + 4)
  | 0, h => absurd h (by omega)
  | j + 1, h => by
    rw [m_s4]
    by_cases e : x = j
    · subst e
      rw [pk_us]
      exact m_s4_hi _ (by omega)
    · rw [pk_un (by omega)]
      exact m_s4_in j (by omega)
theorem m_kf_in {f : Nat → Int32} {p : Int32} {c k : Nat} (hc : c ≤ 10) (hk : k < 10) : m_kf (nI c) f p k = if k = m_mkN c then p else if c = 10 then (if k < 9 then f (k + 1) else f k) else f k := by
  unfold m_kf m_mkN
  by_cases q : c = 10
  · subst q
    rw [if_neg (by decide), if_pos rfl, if_pos rfl]
    unfold upd m_up
    by_cases d : k = 9
    · rw [if_pos d, if_pos d]
    · rw [if_neg d, if_neg d, if_pos (by omega), if_pos (by omega)]
  · rw [if_pos (show nI c < (10 : Int32) from nI_lt (a := c) (b := 10) (by omega) (by decide)), if_neg q, if_neg q, nI_clamp (by omega)]
    rfl
theorem m_mk_row (h : ∀ i, i < 116 → sv i = g i) {c k r : Nat} (hc : c ≤ 10) (hk : k < 10) (hr : r < 4) (x : Int32) (hx : k = m_mkN c → m_mkA sv c (76 + 4 * k + r) = x) : m_mkA sv c (76 + 4 * k + r) = m_kf (nI c) (z_tr 10 (fun k => g (4 * k + (76 + r)))) x k := by
  rw [m_kf_in hc hk]
  by_cases e : k = m_mkN c
  · rw [if_pos e, hx e]
  · rw [if_neg e]
    unfold m_mkA
    rw [pk_un (by omega), pk_un (by omega), pk_un (by omega), pk_un (by omega), pk_un (by omega), pk_un (by omega)]
    unfold m_mkT
    by_cases q : c = 10
    · have e9 : m_mkN c = 9 := by unfold m_mkN; rw [if_pos q]
      rw [if_pos q, if_pos q, if_pos (by omega), z_tr_lt (by omega), show 76 + 4 * k + r = 76 + (4 * k + r) by omega, m_s4_in _ (by omega), h _ (by omega)]
      congr 1
      omega
    · rw [if_neg q, if_neg q, z_tr_lt hk, h _ (by omega)]
      congr 1
      omega
theorem m_mk_eq (h : ∀ i, i < 116 → sv i = g i) (hg : z_ok g) {i : Nat} (hi : i < 116) : m_mkA sv (m_n (g 75)) i = m_mkC g i := by
  obtain ⟨e75, l75⟩ := hg.2.1
  obtain ⟨c, hc⟩ : ∃ c, c = m_n (g 75) := ⟨_, rfl⟩
  rw [← hc] at e75 l75 ⊢
  unfold m_mkC
  by_cases q75 : i = 75
  · subst q75
    rw [if_pos rfl, e75, m_kn_nI l75]
    unfold m_mkA
    rw [pk_us]
    congr 1
    unfold m_mkN
    split <;> split <;> omega
  · rw [if_neg q75]
    by_cases q : 76 ≤ i ∧ i < 116
    · rw [if_pos q, e75]
      obtain ⟨k, hk⟩ : ∃ k, k = i / 4 - 19 := ⟨_, rfl⟩
      rw [← hk]
      by_cases r0 : i % 4 = 0
      · rw [if_pos r0, show i = 76 + 4 * k + 0 by omega]
        exact m_mk_row h l75 (by omega) (by decide) _ (fun e => by
          unfold m_mkA
          rw [← e, pk_un (by omega), pk_un (by omega), pk_un (by omega), pk_un (by omega), Nat.add_zero, pk_us, h 4 (by decide)])
      · rw [if_neg r0]
        by_cases r1 : i % 4 = 1
        · rw [if_pos r1, show i = 76 + 4 * k + 1 by omega]
          exact m_mk_row h l75 (by omega) (by decide) _ (fun e => by
            unfold m_mkA
            rw [← e, pk_un (by omega), pk_un (by omega), pk_un (by omega), pk_us, h 0 (by decide), h 1 (by decide)])
        · rw [if_neg r1]
          by_cases r2 : i % 4 = 2
          · rw [if_pos r2, show i = 76 + 4 * k + 2 by omega]
            exact m_mk_row h l75 (by omega) (by decide) _ (fun e => by
              unfold m_mkA
              rw [← e, pk_un (by omega), pk_un (by omega), pk_us, h 7 (by decide)])
          · rw [if_neg r2, show i = 76 + 4 * k + 3 by omega]
            exact m_mk_row h l75 (by omega) (by decide) _ (fun e => by
              unfold m_mkA
              rw [← e, pk_un (by omega), pk_us, h 8 (by decide)])
    · rw [if_neg q, m_mkA_lo (by omega), h i hi]
theorem m_mkA_hi {c x : Nat} (hc : c ≤ 10) (hx : 116 ≤ x) : m_mkA sv c x = sv x := by
  have hn : m_mkN c ≤ 9 := by unfold m_mkN; split <;> omega
  unfold m_mkA
  rw [pk_un (by omega), pk_un (by omega), pk_un (by omega), pk_un (by omega), pk_un (by omega), pk_un (by omega)]
  unfold m_mkT
  split
  · exact m_s4_hi _ (by omega)
  · rfl
theorem z_inv_mk (hg : z_inv g) : z_inv (m_mkC g) := by
  refine ⟨z_ok_mk hg.1, ?_⟩
  have e : ∀ i, i < 75 → m_mkC g i = g i := by
    intro i hi
    unfold m_mkC
    rw [if_neg (by omega), if_neg (by omega)]
  unfold z_rg
  rw [e 0 (by decide), e 1 (by decide), e 2 (by decide), e 3 (by decide), e 9 (by decide), e 10 (by decide), e 11 (by decide), e 13 (by decide), e 14 (by decide)]
  exact hg.2
/-! threshold, limit -/
theorem m_upd_eq (h : ∀ i, i < 116 → sv i = g i) {k : Nat} {x : Int32} {i : Nat} (hi : i < 116) : upd sv k x i = upd g k x i := by
  unfold upd
  split
  · rfl
  · exact h i hi
theorem z_inv_thr {x : Int32} {T : Nat} (hg : z_inv g) (hx : x = nI T) (hT : 10 ≤ T ∧ T ≤ 500) : z_inv (upd g 10 x) := by
  have e : ∀ i, i ≠ 10 → upd g 10 x i = g i := fun i h => pk_un h
  have e10 : upd g 10 x 10 = x := pk_us
  unfold z_inv z_ok z_rg
  rw [e10, e 0 (by decide), e 1 (by decide), e 2 (by decide), e 3 (by decide), e 9 (by decide), e 11 (by decide), e 13 (by decide), e 14 (by decide), e 75 (by decide)]
  obtain ⟨hok, h0, h1, h3, h9, h10, h11, h2⟩ := hg
  exact ⟨hok, h0, h1, h3, h9, ⟨T, hx, hT⟩, h11, h2⟩
theorem z_inv_lim {x : Int32} {T : Nat} (hg : z_inv g) (hx : x = nI T) (hT : 10 ≤ T ∧ T ≤ 200) : z_inv (upd g 11 x) := by
  have e : ∀ i, i ≠ 11 → upd g 11 x i = g i := fun i h => pk_un h
  have e11 : upd g 11 x 11 = x := pk_us
  unfold z_inv z_ok z_rg
  rw [e11, e 0 (by decide), e 1 (by decide), e 2 (by decide), e 3 (by decide), e 9 (by decide), e 10 (by decide), e 13 (by decide), e 14 (by decide), e 75 (by decide)]
  obtain ⟨hok, h0, h1, h3, h9, h10, h11, h2⟩ := hg
  exact ⟨hok, h0, h1, h3, h9, h10, ⟨T, hx, hT⟩, h2⟩
end OPS
/-! the row of saved states -/
theorem m_svS_at {sv : Nat → Int32} {j : Nat} (hj : j < 116) : ∀ k t, 1 ≤ t → t ≤ k → m_svS sv k (116 * t + j) = sv (116 * (t + 1) + j)
  | 0, t, h1, h2 => absurd h1 (by omega)
  | k + 1, t, h1, h2 => by
    rw [m_svS]
    by_cases e : t = k + 1
    · subst e
      rw [m_cpA_at (by omega) 116 (by decide) hj]
      have hi : ∀ k' x, 116 * (k' + 1) ≤ x → m_svS sv k' x = sv x := by
        intro k'
        induction k' with
        | zero => intro x _; rfl
        | succ q ih =>
          intro x hx
          rw [m_svS, m_cpA_ne _ (by omega)]
          exact ih x (by omega)
      exact hi k _ (by omega)
    · rw [m_cpA_ne _ (by omega)]
      exact m_svS_at hj k t h1 (by omega)
theorem m_svS_hi {sv : Nat → Int32} {x : Nat} : ∀ k, 116 * (k + 1) ≤ x → m_svS sv k x = sv x
  | 0, _ => rfl
  | k + 1, h => by
    rw [m_svS, m_cpA_ne _ (by omega)]
    exact m_svS_hi k (by omega)
theorem m_svA_new {sv : Nat → Int32} {d j : Nat} (hj : j < 116) : m_svA sv d (116 * m_svC d + j) = sv j := by
  have hc : 0 ≠ m_svC d := by unfold m_svC; split <;> omega
  unfold m_svA
  rw [m_cpA_at hc 116 (by decide) hj, show 116 * 0 + j = j by omega]
  split
  · exact m_svS_lo hj _
  · rfl
theorem m_svA_old {sv : Nat → Int32} {d t j : Nat} (hj : j < 116) (h1 : 1 ≤ t) (h2 : t < m_svC d) : m_svA sv d (116 * t + j) = if d = 6 then sv (116 * (t + 1) + j) else sv (116 * t + j) := by
  unfold m_svA
  rw [m_cpA_ne _ (by omega)]
  by_cases c : d = 6
  · rw [if_pos c, if_pos c]
    refine m_svS_at hj 5 t h1 ?_
    unfold m_svC at h2
    rw [if_pos c] at h2
    omega
  · rw [if_neg c, if_neg c]
theorem m_svA_hi {sv : Nat → Int32} {d x : Nat} (hd : d ≤ 6) (hx : 812 ≤ x) : m_svA sv d x = sv x := by
  have hc : m_svC d ≤ 6 := by unfold m_svC; split <;> omega
  unfold m_svA
  rw [m_cpA_ne _ (by omega)]
  split
  · exact m_svS_hi 5 (by omega)
  · rfl
/-- what holds between the watch's states and the reference's row -/
def z_R (sv fl : Nat → Int32) (d : Nat) (nx ct f0 f1 : Int32) (g ga gb : Nat → Int32) (v : Nat → Nat → Int32) : Prop :=
  (∀ i, i < 116 → sv i = g i) ∧ z_inv g ∧ (ct = nI d ∧ d ≤ 6) ∧ (nx = nI (m_n nx) ∧ m_n nx < 6) ∧
  (∀ k, k < d → z_inv (v ((m_n nx + 6 - d + k) % 6)) ∧ ∀ i, i < 116 → sv (116 * (k + 1) + i) = v ((m_n nx + 6 - d + k) % 6) i) ∧
  ((f0 = 0 ∨ f0 = 1) ∧ (f1 = 0 ∨ f1 = 1) ∧ fl 0 = f0 ∧ fl 1 = f1) ∧
  (¬ f0 = 0 → z_inv ga ∧ ∀ i, i < 116 → sv (812 + i) = ga i) ∧ (¬ f1 = 0 → z_inv gb ∧ ∀ i, i < 116 → sv (928 + i) = gb i) ∧
  z_b2 ga ∧ z_b2 gb ∧ ∀ k, k < 6 → z_b2 (v k)
section RR
variable {sv fl : Nat → Int32} {d : Nat} {nx ct f0 f1 : Int32} {g ga gb : Nat → Int32} {v : Nat → Nat → Int32}
theorem z_inv_b2 {g : Nat → Int32} (h : z_inv g) : z_b2 g := ⟨h.1.2.2.1, h.1.2.2.2⟩
theorem z_R_wk {ln : Int32} (hR : z_R sv fl d nx ct f0 f1 g ga gb v) (hl : ln = nI (m_n ln) ∧ m_n ln ≤ 60) : z_wk ln nx ct f0 f1 g ga gb v := by
  obtain ⟨-, hg, ⟨hct, hd⟩, hnx, -, ⟨hf0, hf1, -, -⟩, -, -, ha, hb, hv⟩ := hR
  refine ⟨hg.1, hnx, ?_, hl, hf0, hf1, ha, hb, hv⟩
  rw [hct, m_n_nI (by omega)]
  exact ⟨rfl, hd⟩
/-- only what is now changes -/
theorem z_R_cur {sv' g' : Nat → Int32} (hR : z_R sv fl d nx ct f0 f1 g ga gb v) (h : ∀ i, i < 116 → sv' i = g' i) (hg : z_inv g') (hx : ∀ x, 116 ≤ x → x < 1044 → sv' x = sv x) : z_R sv' fl d nx ct f0 f1 g' ga gb v := by
  obtain ⟨-, -, hct, hnx, hs, hf, ha, hb, r⟩ := hR
  refine ⟨h, hg, hct, hnx, fun k hk => ⟨(hs k hk).1, fun i hi => ?_⟩, hf, fun z => ⟨(ha z).1, fun i hi => ?_⟩, fun z => ⟨(hb z).1, fun i hi => ?_⟩, r⟩
  · rw [hx _ (by omega) (by omega)]
    exact (hs k hk).2 i hi
  · rw [hx _ (by omega) (by omega)]
    exact (ha z).2 i hi
  · rw [hx _ (by omega) (by omega)]
    exact (hb z).2 i hi
theorem m_svC_ct (hct : ct = nI d ∧ d ≤ 6) : nI (if m_n ct < 6 then m_n ct + 1 else 6) = nI (m_svC d) ∧ m_svC d ≤ 6 := by
  rw [hct.1, m_n_nI (by omega)]
  unfold m_svC
  constructor
  · congr 1
    split <;> split <;> omega
  · split <;> omega
theorem z_R_save (hR : z_R sv fl d nx ct f0 f1 g ga gb v) : z_R (m_svA sv d) fl (m_svC d) (nI ((m_n nx + 1) % 6)) (nI (if m_n ct < 6 then m_n ct + 1 else 6)) f0 f1 g ga gb (va_up v (m_n nx) g) := by
  obtain ⟨h, hg, hct, hnx, hs, hf, ha, hb, ra, rb, rv⟩ := hR
  obtain ⟨N, hN⟩ : ∃ N, N = m_n nx := ⟨_, rfl⟩
  rw [← hN] at hnx hs ⊢
  have hN6 := hnx.2
  have hd := hct.2
  have en : m_n (nI ((N + 1) % 6)) = (N + 1) % 6 := m_n_nI (by omega)
  have hsv6 := (m_svC_ct hct).2
  have up_eq : va_up v N g N = g := by unfold va_up; rw [if_pos rfl]
  have up_ne : ∀ q, q ≠ N → va_up v N g q = v q := fun q hq => by unfold va_up; rw [if_neg hq]
  refine ⟨fun i hi => by rw [m_svA_lo hi]; exact h i hi, hg, m_svC_ct hct, ?_, fun k hk => ?_, hf, fun z => ⟨(ha z).1, fun i hi => ?_⟩, fun z => ⟨(hb z).1, fun i hi => ?_⟩, ra, rb, fun k hk => ?_⟩
  · rw [en]; exact ⟨rfl, Nat.mod_lt _ (by decide)⟩
  · rw [en]
    by_cases q : k + 1 = m_svC d
    · have e : ((N + 1) % 6 + 6 - m_svC d + k) % 6 = N := by omega
      rw [e, up_eq, q]
      exact ⟨hg, fun i hi => by rw [m_svA_new hi]; exact h i hi⟩
    · by_cases c : d = 6
      · have e6 : m_svC d = 6 := by unfold m_svC; rw [if_pos c]
        have e : ((N + 1) % 6 + 6 - m_svC d + k) % 6 = (N + 6 - d + (k + 1)) % 6 := by omega
        have ne : (N + 6 - d + (k + 1)) % 6 ≠ N := by omega
        rw [e, up_ne _ ne]
        obtain ⟨z1, z2⟩ := hs (k + 1) (by omega)
        refine ⟨z1, fun i hi => ?_⟩
        rw [m_svA_old hi (by omega) (by omega), if_pos c]
        exact z2 i hi
      · have e6 : m_svC d = d + 1 := by unfold m_svC; rw [if_neg c]
        have e : ((N + 1) % 6 + 6 - m_svC d + k) % 6 = (N + 6 - d + k) % 6 := by omega
        have ne : (N + 6 - d + k) % 6 ≠ N := by omega
        rw [e, up_ne _ ne]
        obtain ⟨z1, z2⟩ := hs k (by omega)
        refine ⟨z1, fun i hi => ?_⟩
        rw [m_svA_old hi (by omega) (by omega), if_neg c]
        exact z2 i hi
  · rw [m_svA_hi hd (by omega)]; exact (ha z).2 i hi
  · rw [m_svA_hi hd (by omega)]; exact (hb z).2 i hi
  · by_cases q : k = N
    · rw [q, up_eq]; exact z_inv_b2 hg
    · rw [up_ne _ q]; exact rv k hk
theorem z_R_undo (hR : z_R sv fl d nx ct f0 f1 g ga gb v) (hd1 : 1 ≤ d) : z_R (m_cpA sv d 0 116) fl (d - 1) (nI ((m_n nx + 5) % 6)) (nI (m_n ct - 1)) f0 f1 (v ((m_n nx + 5) % 6)) ga gb v := by
  obtain ⟨h, hg, hct, hnx, hs, hf, ha, hb, ra, rb, rv⟩ := hR
  obtain ⟨N, hN⟩ : ∃ N, N = m_n nx := ⟨_, rfl⟩
  rw [← hN] at hnx hs ⊢
  have hN6 := hnx.2
  have hd := hct.2
  have en : m_n (nI ((N + 5) % 6)) = (N + 5) % 6 := m_n_nI (by omega)
  have hx : ∀ x, 116 ≤ x → m_cpA sv d 0 116 x = sv x := fun x hx => m_cpA_ne _ (Or.inr (by omega))
  obtain ⟨z1, z2⟩ := hs (d - 1) (by omega)
  have e5 : (N + 6 - d + (d - 1)) % 6 = (N + 5) % 6 := by omega
  rw [e5] at z1 z2
  refine ⟨fun i hi => ?_, z1, ⟨by rw [hct.1, m_n_nI (by omega)], by omega⟩, ?_, fun k hk => ?_, hf, fun z => ⟨(ha z).1, fun i hi => ?_⟩, fun z => ⟨(hb z).1, fun i hi => ?_⟩, ra, rb, rv⟩
  · have := m_cpA_at (sv := sv) (a := d) (c := 0) (j := i) (by omega) 116 (by decide) hi
    rw [show 116 * 0 + i = i by omega] at this
    rw [this, ← z2 i hi]
    congr 2
    omega
  · rw [en]; exact ⟨rfl, Nat.mod_lt _ (by decide)⟩
  · rw [en]
    have e : ((N + 5) % 6 + 6 - (d - 1) + k) % 6 = (N + 6 - d + k) % 6 := by omega
    rw [e]
    obtain ⟨y1, y2⟩ := hs k (by omega)
    exact ⟨y1, fun i hi => by rw [hx _ (by omega)]; exact y2 i hi⟩
  · rw [hx _ (by omega)]; exact (ha z).2 i hi
  · rw [hx _ (by omega)]; exact (hb z).2 i hi
theorem z_R_store (hR : z_R sv fl d nx ct f0 f1 g ga gb v) {x : Int32} {k : Nat} (hx : x = nI k) (hk : k < 2) : z_R (m_cpA sv 0 (7 + k) 116) (upd fl k 1) d nx ct (if x = 0 then 1 else f0) (if x = 0 then f1 else 1) g (if x = 0 then g else ga) (if x = 0 then gb else g) v := by
  obtain ⟨h, hg, hct, hnx, hs, ⟨hf0, hf1, hl0, hl1⟩, ha, hb, ra, rb, rv⟩ := hR
  have hne : ∀ y, y < 116 * (7 + k) ∨ 116 * (7 + k) + 116 ≤ y → m_cpA sv 0 (7 + k) 116 y = sv y := fun y hy => m_cpA_ne _ hy
  have hat : ∀ i, i < 116 → m_cpA sv 0 (7 + k) 116 (116 * (7 + k) + i) = g i := fun i hi => by
    rw [m_cpA_at (by omega) 116 (by decide) hi, ← h i hi]
    congr 1
    omega
  have hd := hct.2
  rcases (show k = 0 ∨ k = 1 by omega) with q | q
  · subst q
    have e0 : x = 0 := hx
    rw [if_pos e0, if_pos e0, if_pos e0, if_pos e0]
    refine ⟨fun i hi => by rw [hne _ (by omega)]; exact h i hi, hg, hct, hnx, fun t ht => ⟨(hs t ht).1, fun i hi => by rw [hne _ (by omega)]; exact (hs t ht).2 i hi⟩, ⟨Or.inr rfl, hf1, pk_us, by rw [pk_un (by decide)]; exact hl1⟩, fun _ => ⟨hg, fun i hi => hat i hi⟩, fun z => ⟨(hb z).1, fun i hi => by rw [hne _ (by omega)]; exact (hb z).2 i hi⟩, z_inv_b2 hg, rb, rv⟩
  · subst q
    have e0 : ¬ x = 0 := by rw [hx]; decide
    rw [if_neg e0, if_neg e0, if_neg e0, if_neg e0]
    refine ⟨fun i hi => by rw [hne _ (by omega)]; exact h i hi, hg, hct, hnx, fun t ht => ⟨(hs t ht).1, fun i hi => by rw [hne _ (by omega)]; exact (hs t ht).2 i hi⟩, ⟨hf0, Or.inr rfl, by rw [pk_un (by decide)]; exact hl0, pk_us⟩, fun z => ⟨(ha z).1, fun i hi => by rw [hne _ (by omega)]; exact (ha z).2 i hi⟩, fun _ => ⟨hg, fun i hi => hat i hi⟩, ra, z_inv_b2 hg, rv⟩
theorem z_R_recall (hR : z_R sv fl d nx ct f0 f1 g ga gb v) {x : Int32} {k : Nat} (hx : x = nI k) (hk : k < 2) (hf : ¬ (if x = 0 then f0 else f1) = 0) : z_R (m_cpA (m_svA sv d) (7 + k) 0 116) fl (m_svC d) (nI ((m_n nx + 1) % 6)) (nI (if m_n ct < 6 then m_n ct + 1 else 6)) f0 f1 (if x = 0 then ga else gb) ga gb (va_up v (m_n nx) g) := by
  have hd := hR.2.2.1.2
  have ha := hR.2.2.2.2.2.2.1
  have hb := hR.2.2.2.2.2.2.2.1
  refine z_R_cur (z_R_save hR) (fun i hi => ?_) ?_ (fun y hy _ => m_cpA_ne _ (Or.inr (by omega)))
  · have := m_cpA_at (sv := m_svA sv d) (a := 7 + k) (c := 0) (j := i) (by omega) 116 (by decide) hi
    rw [show 116 * 0 + i = i by omega] at this
    rw [this, m_svA_hi hd (by omega)]
    rcases (show k = 0 ∨ k = 1 by omega) with q | q
    · subst q
      have e0 : x = 0 := hx
      rw [if_pos e0] at hf ⊢
      exact (ha hf).2 i hi
    · subst q
      have e0 : ¬ x = 0 := by rw [hx]; decide
      rw [if_neg e0] at hf ⊢
      exact (hb hf).2 i hi
  · by_cases e0 : x = 0
    · rw [if_pos e0] at hf ⊢
      exact (ha hf).1
    · rw [if_neg e0] at hf ⊢
      exact (hb hf).1
end RR
