/-! a state as the law's runs have it: minutes, climbs, alarms, the log -/
theorem k_nat {x : Int32} {n : Nat} (h : x.toInt = (n : Int)) (hn : n < 2 ^ 31) : x = nI n := Int32.toInt_inj.mp (h.trans (nI_toInt hn).symm)
theorem k_lt0 {x : Int32} (h : 0 ≤ x.toInt) : ¬ x < 0 := by
  rw [fa_lt, k_0I]
  omega
theorem k_mn0 : m_n 0 = 0 := by decide +kernel
def z_lg (g : Nat → Int32) : Prop := ∀ k, k < m_n (g 14) → ∃ q : Nat, g (k + 15) = nI q ∧ 5000 ≤ q ∧ q ≤ 11000
def z_ct (T M a d b : Nat) (g : Nat → Int32) : Prop := M ≤ T ∧ g 4 = nI M ∧ g 7 = nI a ∧ g 8 = nI d ∧ a + d ≤ 200000 * M ∧ g 12 = nI b ∧ b ≤ M
def z_g (T : Nat) (g : Nat → Int32) : Prop := z_inv g ∧ z_lg g ∧ ∃ M a d b : Nat, z_ct T M a d b g
theorem z_g_up {T U : Nat} {g : Nat → Int32} (h : z_g T g) (hU : T ≤ U) : z_g U g := by
  obtain ⟨h1, h2, M, a, d, b, h3, h4⟩ := h
  exact ⟨h1, h2, M, a, d, b, Nat.le_trans h3 hU, h4⟩
theorem z_g_of {T : Nat} {g g' : Nat → Int32} (h : z_g T g) (hi : z_inv g') (h4 : g' 4 = g 4) (h7 : g' 7 = g 7) (h8 : g' 8 = g 8) (h12 : g' 12 = g 12) (hl : z_lg g') : z_g T g' := by
  obtain ⟨-, -, M, a, d, b, e1, e2, e3, e4, e5, e6, e7⟩ := h
  exact ⟨hi, hl, M, a, d, b, e1, h4.trans e2, h7.trans e3, h8.trans e4, e5, h12.trans e6, e7⟩
theorem z_lg_of {g g' : Nat → Int32} (h : z_lg g) (h14 : g' 14 = g 14) (hk : ∀ k, k < 60 → g' (k + 15) = g (k + 15)) (hm : m_n (g 14) ≤ 60) : z_lg g' := by
  intro k hk9
  rw [h14] at hk9
  rw [hk k (by omega)]
  exact h k hk9
theorem z_lg_0 {g : Nat → Int32} (h : g 14 = 0) : z_lg g := by
  intro k hk
  rw [h, k_mn0] at hk
  exact absurd hk (Nat.not_lt_zero _)
theorem z_g0 : z_g 0 m_g0 := ⟨z_inv_g0, z_lg_0 rfl, 0, 0, 0, 0, Nat.le_refl _, rfl, rfl, rfl, Nat.zero_le _, rfl, Nat.le_refl _⟩
/-! a minute -/
theorem m_tad {b t x : Int32} {T : Nat} (hb : -100000 ≤ b.toInt ∧ b.toInt ≤ 100000) (hx : -100000 ≤ x.toInt ∧ x.toInt ≤ 100000) (ht : t = nI T) (hT1 : 1 ≤ T) (hT2 : T ≤ 1000) :
    ∃ u w : Nat, u + w ≤ 200000 ∧ (∀ a, m_ta b (nI a) t x = nI (a + u)) ∧ ∀ d, m_td b (nI d) t x = nI (d + w) := by
  have et : t.toInt = (T : Int) := by rw [ht, nI_toInt (by omega)]
  have e1 : (b + t).toInt = b.toInt + T := by rw [fb_addI (by omega) (by omega), et]
  have e2 : (b - t).toInt = b.toInt - T := by rw [fb_subI (by omega) (by omega), et]
  unfold m_ta m_td
  by_cases c : b + t ≤ x
  · have hc : b.toInt + T ≤ x.toInt := by rw [fa_le, e1] at c; exact c
    have e3 : x - b = nI (x.toInt - b.toInt).toNat := k_nat (by rw [fb_subI (by omega) (by omega)]; omega) (by omega)
    exact ⟨(x.toInt - b.toInt).toNat, 0, by omega, fun a => by rw [if_pos c, e3, nI_add], fun d => by rw [if_pos c]; rfl⟩
  · by_cases c2 : x ≤ b - t
    · have hc : x.toInt ≤ b.toInt - T := by rw [fa_le, e2] at c2; exact c2
      have e3 : b - x = nI (b.toInt - x.toInt).toNat := k_nat (by rw [fb_subI (by omega) (by omega)]; omega) (by omega)
      exact ⟨0, (b.toInt - x.toInt).toNat, by omega, fun a => by rw [if_neg c]; rfl, fun d => by rw [if_neg c, if_pos c2, e3, nI_add]⟩
    · exact ⟨0, 0, by omega, fun a => by rw [if_neg c]; rfl, fun d => by rw [if_neg c, if_neg c2]; rfl⟩
theorem z_ct_min {g : Nat → Int32} {p : Int32} {P T M a d b : Nat} (hg : z_inv g) (hc : z_ct T M a d b g) (hp : p = nI P) (hP : 5000 ≤ P ∧ P ≤ 11000) :
    ∃ a' d' b' : Nat, z_ct (T + 1) (M + 1) a' d' b' (m_minC g p) ∧ a ≤ a' ∧ d ≤ d' ∧ b ≤ b' ∧ b' ≤ b + 1 ∧ (¬ g 2 = 0 → a' = a ∧ d' = d) := by
  obtain ⟨h1, h2, h3, h4, h5, h6, h7⟩ := hc
  obtain ⟨hok, ⟨P0, e0, hP0⟩, ⟨S, e1, hS⟩, r3, r9, ⟨TT, e10, hT⟩, ⟨LL, e11, hL⟩, hmv⟩ := hg
  have f4 : m_minC g p 4 = nI (M + 1) := by
    have : m_minC g p 4 = g 4 + 1 := by simp [m_minC]
    rw [this, h2, nI_1]
  by_cases c : g 2 = 0
  · have hx := m_alt_rg hP (S := S) (by omega)
    rw [← hp, ← e1] at hx
    obtain ⟨u, w, hs, ha, hd⟩ := m_tad r9 hx e10 (by omega) (by omega)
    have f7 : m_minC g p 7 = m_ta (g 9) (g 7) (g 10) (m_std p - m_std (g 1)) := by simp [m_minC, c]
    have f8 : m_minC g p 8 = m_td (g 9) (g 8) (g 10) (m_std p - m_std (g 1)) := by simp [m_minC, c]
    have f12 : m_minC g p 12 = g 12 := by simp [m_minC, c]
    exact ⟨a + u, d + w, b, ⟨by omega, f4, by rw [f7, h3, ha], by rw [f8, h4, hd], by omega, by rw [f12, h6], by omega⟩, by omega, by omega, by omega, by omega, fun z => absurd c z⟩
  · have f7 : m_minC g p 7 = g 7 := by simp [m_minC, c]
    have f8 : m_minC g p 8 = g 8 := by simp [m_minC, c]
    have f12 : m_minC g p 12 = m_bg (m_wn (m_n (g 14))) (m_lf (g 14) (m_log g) p) (g 11) (g 12) (g 13) := by simp [m_minC, c]
    have hb : m_minC g p 12 = nI b ∨ m_minC g p 12 = nI (b + 1) := by
      rw [f12, h6]
      unfold m_bg
      split
      · exact Or.inl rfl
      · split
        · exact Or.inr (nI_1 b)
        · exact Or.inl rfl
    rcases hb with hb | hb
    · exact ⟨a, d, b, ⟨by omega, f4, f7.trans h3, f8.trans h4, by omega, hb, by omega⟩, by omega, by omega, by omega, by omega, fun _ => ⟨rfl, rfl⟩⟩
    · exact ⟨a, d, b + 1, ⟨by omega, f4, f7.trans h3, f8.trans h4, by omega, hb, by omega⟩, by omega, by omega, by omega, by omega, fun _ => ⟨rfl, rfl⟩⟩
theorem z_lg_min {g : Nat → Int32} {p : Int32} {P : Nat} (hg : z_inv g) (hl : z_lg g) (hp : p = nI P) (hP : 5000 ≤ P ∧ P ≤ 11000) : z_lg (m_minC g p) := by
  by_cases c : g 2 = 0
  · have e14 : m_minC g p 14 = g 14 := by simp [m_minC, c]
    exact z_lg_0 (e14.trans (hg.2.2.2.2.2.2.2 c).1)
  · intro k hk
    have e14 : m_minC g p 14 = m_ln (g 14) := by simp [m_minC, c]
    obtain ⟨m, hm, hm6⟩ : ∃ m : Nat, g 14 = nI m ∧ m ≤ 60 := ⟨_, hg.1.1.1, hg.1.1.2⟩
    rw [e14, hm, m_ln_nI hm6, m_n_nI (by split <;> omega)] at hk
    have hk6 : k < 60 := by split at hk <;> omega
    have ek : m_minC g p (k + 15) = m_lf (g 14) (m_log g) p k := by rw [m_minC_log hg.1 c, z_tr_lt hk6]
    have hat : ∀ j, j < m → ∃ q : Nat, m_log g j = nI q ∧ 5000 ≤ q ∧ q ≤ 11000 := fun j hj => by
      rw [m_log_at (by omega)]
      exact hl j (by rw [hm, m_n_nI (by omega)]; exact hj)
    rw [ek, hm, m_lf_in hm6 hk6]
    by_cases q : k = m_lgC m
    · rw [if_pos q]
      exact ⟨P, hp, hP⟩
    · rw [if_neg q]
      unfold m_lgC at q
      by_cases d : m = 60
      · rw [if_pos d] at q
        rw [if_pos d, if_pos (by omega)]
        exact hat _ (by omega)
      · rw [if_neg d] at q
        rw [if_neg d]
        exact hat k (by split at hk <;> omega)
theorem z_trip_ct {g : Nat → Int32} {n p : Int32} {nn Pe T M a d b : Nat} (hg : z_inv g) (hl : z_lg g) (hc : z_ct T M a d b g) (hn : n = nI nn) (hn1 : 1 ≤ nn) (hn2 : nn ≤ 120) (hp : p = nI Pe) (hP : 5000 ≤ Pe ∧ Pe ≤ 11000) :
    ∀ k, k ≤ nn → z_inv (m_tripC g n p k) ∧ z_lg (m_tripC g n p k) ∧ ∃ a' d' b' : Nat, z_ct (T + k) (M + k) a' d' b' (m_tripC g n p k) ∧ a ≤ a' ∧ d ≤ d' ∧ b ≤ b' ∧ b' ≤ b + k ∧ (¬ g 2 = 0 → a' = a ∧ d' = d)
  | 0, _ => ⟨hg, hl, a, d, b, hc, by omega, by omega, by omega, by omega, fun _ => ⟨rfl, rfl⟩⟩
  | k + 1, hk => by
    obtain ⟨i1, i2, a', d', b', i3, i4, i5, i6, i7, i8⟩ := z_trip_ct hg hl hc hn hn1 hn2 hp hP k (by omega)
    obtain ⟨A, eA, hA⟩ := hg.2.1
    obtain ⟨Q, eQ, hQ⟩ := m_way_rg (A := A) (B := Pe) (k := k + 1) (n := nn) hA hP hk hn1 hn2
    have eq : m_way (g 0) p (nI (k + 1)) n = nI Q := by rw [eA, hp, hn]; exact eQ
    obtain ⟨a2, d2, b2, j1, j2, j3, j4, j5, j6⟩ := z_ct_min i1 i3 eq hQ
    have e2 := (m_trip_st (g := g) (n := n) (p := p) k).1
    rw [m_tripC]
    exact ⟨z_inv_min i1 eq hQ, z_lg_min i1 i2 eq hQ, a2, d2, b2, j1, by omega, by omega, by omega, by omega, fun z => ⟨(j6 (by rw [e2]; exact z)).1.trans (i8 z).1, (j6 (by rw [e2]; exact z)).2.trans (i8 z).2⟩⟩
theorem k_rng {x L H : Int32} {l h : Nat} (hL : L = nI l) (hH : H = nI h) (hl : l < 2 ^ 31) (hh : h < 2 ^ 31) (h1 : L ≤ x) (h2 : x ≤ H) : x = nI (m_n x) ∧ l ≤ m_n x ∧ m_n x ≤ h := by
  have h0 : ¬ x < 0 := fun h9 => by
    rw [hL, fa_le, nI_toInt hl] at h1
    rw [fa_lt, k_0I] at h9
    omega
  obtain ⟨j, hj, rfl⟩ := nI_of h0
  rw [m_n_nI hj]
  rw [hL] at h1
  rw [hH] at h2
  exact ⟨rfl, nI_len hl hj h1, nI_len hj hh h2⟩
theorem k_pr {p : Int32} (h : 5000 ≤ p ∧ p ≤ 11000) : p = nI (m_n p) ∧ 5000 ≤ m_n p ∧ m_n p ≤ 11000 := k_rng (l := 5000) (h := 11000) rfl rfl (by decide) (by decide) h.1 h.2
theorem k_mi {n : Int32} (h : 1 ≤ n ∧ n ≤ 120) : n = nI (m_n n) ∧ 1 ≤ m_n n ∧ m_n n ≤ 120 := k_rng (l := 1) (h := 120) rfl rfl (by decide) (by decide) h.1 h.2
