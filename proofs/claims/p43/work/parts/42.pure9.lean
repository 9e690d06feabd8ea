/-! what the law asks of a watch that stands still -/
section HO
variable {T : Nat} {g : Nat → Int32}
theorem h_p (hg : z_g T g) : 5000 ≤ g 0 ∧ g 0 ≤ 11000 := by
  obtain ⟨P, e, h⟩ := hg.1.2.1
  rw [e]
  exact ⟨nI_le (a := 5000) h.1 (by omega), nI_le (b := 11000) h.2 (by decide)⟩
theorem h_s (hg : z_g T g) : 9000 ≤ g 1 ∧ g 1 ≤ 10800 := by
  obtain ⟨S, e, h⟩ := hg.1.2.2.1
  rw [e]
  exact ⟨nI_le (a := 9000) h.1 (by omega), nI_le (b := 10800) h.2 (by decide)⟩
theorem h_s5 (hg : z_g T g) : 5000 ≤ g 1 ∧ g 1 ≤ 11000 :=
  ⟨Int32.le_trans (show (5000 : Int32) ≤ 9000 by decide) (h_s hg).1, Int32.le_trans (h_s hg).2 (show (10800 : Int32) ≤ 11000 by decide)⟩
theorem h_mono {j : Nat} (h : j < 6000) : ¬ m_std (nI (5000 + j)) < m_std (nI (5000 + j) + 1) := by
  rw [nI_1, fa_lt, m_std_toInt (by omega), m_std_toInt (by omega)]
  have := m_stdN_step (p := 5000 + j) (by omega)
  omega
theorem h_m_or (hg : z_g T g) {h : Int32} {k : Nat} (hh : h = nI k - 4000) (hk : k ≤ 40000) :
    (m_down (h + m_std (g 1)) 5000 6001 = -1 ∧ m_std 5000 - m_std (g 1) < h) ∨ ∃ j : Nat, j ≤ 6000 ∧ m_down (h + m_std (g 1)) 5000 6001 = nI (5000 + j) ∧ ¬ m_std (nI (5000 + j)) - m_std (g 1) < h ∧ (¬ nI (5000 + j) = 11000 → j < 6000 ∧ m_std (nI (5000 + j) + 1) - m_std (g 1) < h) := by
  obtain ⟨S, e, hS⟩ := hg.1.2.2.1
  have eh : h.toInt = (k : Int) - 4000 := by
    rw [hh]
    have : (nI k - nI 4000).toInt = (k : Int) - 4000 := pk_sub_toInt (by omega) (by decide)
    exact this
  have hs := m_stdN_rng (p := S) (by omega) (by omega)
  have es : (m_std (g 1)).toInt = m_stdN S := by rw [e, m_std_toInt (by omega)]
  have e1 : (h + m_std (g 1)).toInt = (k : Int) - 4000 + m_stdN S := by rw [fb_addI, eh, es] <;> rw [eh, es] <;> omega
  have key : ∀ q : Nat, q ≤ 6000 → (h + m_std (g 1) ≤ m_std (nI (5000 + q)) ↔ ¬ m_std (nI (5000 + q)) - m_std (g 1) < h) := by
    intro q hq
    have hq2 := m_stdN_rng (p := 5000 + q) (by omega) (by omega)
    have e2 : (m_std (nI (5000 + q)) - m_std (g 1)).toInt = m_stdN (5000 + q) - m_stdN S := by
      rw [fb_subI, m_std_toInt (by omega), es] <;> rw [m_std_toInt (by omega), es] <;> omega
    rw [fa_le, fa_lt, e1, e2, eh, m_std_toInt (by omega)]
    omega
  rcases m_down_or (sa := h + m_std (g 1)) (lo := 5000) 6001 with ⟨a, b⟩ | ⟨j, a, b, c, d⟩
  · refine Or.inl ⟨a, ?_⟩
    have := b 0 (by decide)
    rw [key 0 (by decide)] at this
    exact Classical.not_not.mp this
  · refine Or.inr ⟨j, by omega, b, (key j (by omega)).mp c, fun z => ?_⟩
    have hj : j < 6000 := by
      rcases Nat.lt_or_ge j 6000 with q | q
      · exact q
      · have : j = 6000 := by omega
        subst this
        exact absurd rfl z
    refine ⟨hj, ?_⟩
    have := d (j + 1) (by omega) (by omega)
    rw [key (j + 1) (by omega)] at this
    rw [nI_1]
    exact Classical.not_not.mp this
theorem h_mx {f : Nat → Int32} (hf : ∀ k, k < 60 → ∃ q : Nat, f k = nI q ∧ 5000 ≤ q ∧ q ≤ 11000) : True := trivial
theorem h_mx2 {f : Nat → Int32} {s : Nat} : ∀ n, (∀ k, k < n → ∃ q : Nat, f (s + k) = nI q ∧ 5000 ≤ q ∧ q ≤ 11000) → ∃ m : Nat, m_mx f s n = nI m ∧ m ≤ 11000 ∧ ∀ k, k < n → ∀ q : Nat, f (s + k) = nI q → q ≤ 11000 → q ≤ m
  | 0, _ => ⟨0, rfl, by omega, fun k hk => absurd hk (Nat.not_lt_zero _)⟩
  | n + 1, h => by
    obtain ⟨m, e, hm, hall⟩ := h_mx2 n (fun k hk => h k (by omega))
    obtain ⟨q, eq, hq1, hq2⟩ := h n (by omega)
    rw [m_mx, e, eq]
    by_cases c : nI m < nI q
    · rw [if_pos c]
      have hlt := nI_ltn (by omega) (by omega) c
      refine ⟨q, rfl, hq2, fun k hk r hr hr9 => ?_⟩
      by_cases d : k = n
      · subst d
        have := (nI_eq (by omega) (by omega)).mp (hr.symm.trans eq)
        omega
      · have := hall k (by omega) r hr hr9
        omega
    · rw [if_neg c]
      have hge := nI_nltn (by omega) (by omega) c
      refine ⟨m, rfl, hm, fun k hk r hr hr9 => ?_⟩
      by_cases d : k = n
      · subst d
        have := (nI_eq (by omega) (by omega)).mp (hr.symm.trans eq)
        omega
      · exact hall k (by omega) r hr hr9
theorem h_lgq (hg : z_g T g) : ∀ k, k < m_n (g 14) → ∃ q : Nat, m_log g k = nI q ∧ 5000 ≤ q ∧ q ≤ 11000 := fun k hk => by
  have := hg.1.1.1.2
  rw [m_log_at (by omega)]
  exact hg.2.1 k hk
theorem m_mx00 {f : Nat → Int32} : m_mx f 0 0 - 0 = 0 := by
  rw [show m_mx f 0 0 = 0 from rfl]
  decide +kernel
theorem h_fl (hg : z_g T g) : ∃ F : Nat, m_fall (m_n (g 14)) (m_log g) = nI F ∧ F ≤ 6000 ∧ (m_n (g 14) = 0 → F = 0) := by
  unfold m_fall
  have hq := h_lgq hg
  by_cases c : m_n (g 14) = 0
  · rw [if_pos c, c]
    exact ⟨0, m_mx00, by omega, fun _ => rfl⟩
  · rw [if_neg c]
    obtain ⟨m, e, hm, hall⟩ := h_mx2 (f := m_log g) (s := 0) (m_n (g 14)) (fun k hk => by rw [Nat.zero_add]; exact hq k hk)
    obtain ⟨q, eq, hq1, hq2⟩ := hq (m_n (g 14) - 1) (by omega)
    have hle := hall (m_n (g 14) - 1) (by omega) q (by rw [Nat.zero_add]; exact eq) hq2
    rw [e, eq, pk_sub hle]
    exact ⟨m - q, rfl, by omega, fun z => absurd z c⟩
theorem h_f0 (hg : z_g T g) : ¬ m_fall (m_n (g 14)) (m_log g) < 0 := by
  obtain ⟨F, e, h, -⟩ := h_fl hg
  rw [e]
  exact nI_pos (by omega)
theorem h_f6 (hg : z_g T g) : ¬ 6000 < m_fall (m_n (g 14)) (m_log g) := by
  obtain ⟨F, e, h, -⟩ := h_fl hg
  rw [e]
  exact nI_nlt (a := 6000) h (by omega)
theorem h_14 (hg : z_g T g) : ¬ 60 < g 14 := by
  obtain ⟨e, h⟩ := hg.1.1.1
  rw [e]
  exact nI_nlt (a := 60) h (by omega)
theorem h_mv14 (hg : z_g T g) (h2 : g 2 = 0) : g 14 = 0 := (hg.1.2.2.2.2.2.2.2 h2).1
theorem h_mvf (hg : z_g T g) (h2 : g 2 = 0) : m_fall (m_n (g 14)) (m_log g) = 0 := by
  rw [h_mv14 hg h2, k_mn0, m_fall, if_pos rfl]
  exact m_mx00
theorem h_mva (hg : z_g T g) (h2 : g 2 = 0) : m_al (m_n (g 14)) (m_log g) (g 11) = 0 := by
  obtain ⟨L, e, h⟩ := hg.1.2.2.2.2.2.2.1
  unfold m_al
  rw [h_mvf hg h2, e, if_neg (nI_nle (by omega) (by omega))]
theorem h_12 (hT : T ≤ 5000) (hg : z_g T g) : ¬ g 4 < g 12 := by
  obtain ⟨-, -, M, a, d, b, c1, c2, c3, c4, c5, c6, c7⟩ := hg
  rw [c2, c6]
  exact nI_nlt c7 (by omega)
theorem h_75 (hg : z_g T g) : ¬ 10 < g 75 := by
  obtain ⟨e, h⟩ := hg.1.1.2.1
  rw [e]
  exact nI_nlt (a := 10) h (by omega)
theorem h_sz (hg : z_g T g) : ¬ 80000 ≤ m_abs (m_std (g 0) - m_std (g 1)) := by
  obtain ⟨P, e, hP⟩ := hg.1.2.1
  obtain ⟨S, e1, hS⟩ := hg.1.2.2.1
  have h1 := m_stdN_rng (p := P) (by omega) (by omega)
  have h2 := m_stdN_rng (p := S) (by omega) (by omega)
  have e3 := m_dif (P := P) (q := S) hP (by omega)
  have h80 : (80000 : Int32).toInt = 80000 := by decide +kernel
  rw [fa_le, h80, e, e1, m_abs_toInt (by rw [e3]; omega), e3]
  unfold m_ab
  split <;> omega
theorem h_al (hg : z_g T g) (h : ¬ m_al (m_n (g 14)) (m_log g) (g 11) = 0) : ¬ g 2 = 0 := fun z => h (h_mva hg z)
end HO
theorem k_neg (a b : Int32) : a - b = -(b - a) := (Int32.neg_sub).symm
theorem k_tri (a b c : Int32) : a - c = b - c + (a - b) := by
  simp only [Int32.sub_eq_add_neg]
  rw [Int32.add_comm b, Int32.add_assoc (-c), ← Int32.add_assoc b, Int32.add_comm b, Int32.add_assoc a, Int32.add_right_neg, Int32.add_zero, Int32.add_comm]
/-! the numbers that the law draws -/
def a_up (x n : Int32) : Int32 := (x &&& 2147483647) - (x &&& 2147483647) / n * n
def a_wi (v lo hi : Int32) : Int32 := if v < lo then lo else if hi < v then hi else v
theorem a_up_n (x : Int32) {k : Nat} (h0 : 0 < k) (hk : k < 2 ^ 31) : ∃ j : Nat, j < k ∧ a_up x (nI k) = nI j := by
  obtain ⟨a, ha, e⟩ := pk_andE x (m := 2147483647) 31 (by decide +kernel)
  unfold a_up
  rw [e, pk_rem ha h0 hk]
  exact ⟨a % k, Nat.mod_lt _ h0, rfl⟩
theorem a_wi_r {v lo hi : Int32} (h : lo ≤ hi) : lo ≤ a_wi v lo hi ∧ a_wi v lo hi ≤ hi := by
  unfold a_wi
  split
  · exact ⟨Int32.le_refl _, h⟩
  · rename_i c
    split
    · exact ⟨h, Int32.le_refl _⟩
    · rename_i d
      exact ⟨Int32.not_lt.mp c, Int32.not_lt.mp d⟩
theorem a_rg (x : Int32) {lo k : Nat} {K LO HI : Int32} (hK : K = nI k) (hLO : LO = nI lo) (hHI : HI = nI (lo + k - 1)) (h0 : 0 < k) (hk : lo + k < 2 ^ 31) : LO ≤ LO + a_up x K ∧ LO + a_up x K ≤ HI := by
  obtain ⟨j, hj, e⟩ := a_up_n x h0 (k := k) (by omega)
  rw [hK, e, hLO, hHI, nI_add]
  exact ⟨nI_le (by omega) (by omega), nI_le (by omega) (by omega)⟩
theorem a_rgN (x : Int32) {lo k : Nat} {K LO : Int32} (hK : K = nI k) (hLO : LO = nI lo) (h0 : 0 < k) (hk : lo + k < 2 ^ 31) : ∃ S : Nat, LO + a_up x K = nI S ∧ lo ≤ S ∧ S < lo + k := by
  obtain ⟨j, hj, e⟩ := a_up_n x h0 (k := k) (by omega)
  rw [hK, e, hLO, nI_add]
  exact ⟨lo + j, rfl, by omega, by omega⟩
