theorem h_hr {k : Nat} (hk : k ≤ 40000) : -5000 ≤ nI k - 4000 ∧ nI k - 4000 ≤ 50000 := by
  have e : (nI k - 4000).toInt = (k : Int) - 4000 := pk_sub_toInt (b := 4000) (by omega) (by decide)
  have e1 : (-5000 : Int32).toInt = -5000 := by decide +kernel
  have e2 : (50000 : Int32).toInt = 50000 := by decide +kernel
  rw [fa_le, fa_le, e, e1, e2]
  omega
theorem h_p5 {q : Nat} (h : q ≤ 6000) : 5000 ≤ nI (5000 + q) ∧ nI (5000 + q) ≤ 11000 := ⟨nI_le (a := 5000) (by omega) (by omega), nI_le (b := 11000) (by omega) (by decide)⟩
theorem h_p6 {q : Nat} (h : q < 6000) : 5000 ≤ nI (5000 + q) + 1 ∧ nI (5000 + q) + 1 ≤ 11000 := by
  rw [nI_1]
  exact ⟨nI_le (a := 5000) (by omega) (by omega), nI_le (b := 11000) (by omega) (by decide)⟩
theorem cl_lt {T k : Nat} {g : Nat → Int32} (hg : z_g T g) (hk : k ≤ 10) (h : ¬ g 75 ≤ nI k) : k < m_n (g 75) := by
  obtain ⟨e, h10⟩ := hg.1.1.2.1
  generalize m_n (g 75) = c at e h10 ⊢
  rw [e] at h
  exact nI_nlen (by omega) (by omega) h
theorem cl_i {T i : Nat} {g : Nat → Int32} (hg : z_g T g) (h : i < m_n (g 75)) : 0 ≤ nI i ∧ nI i < g 75 := by
  obtain ⟨e, h10⟩ := hg.1.1.2.1
  generalize m_n (g 75) = c at e h10 h
  rw [e]
  exact ⟨nI_pos' (by omega), nI_lt h (by omega)⟩
theorem cl_m {T : Nat} {g : Nat → Int32} (hg : z_g T g) : m_n (g 75) ≤ 10 := hg.1.1.2.1.2
