theorem m_rnC_lt {tx : Nat → Int32} {n i : Nat} {y fr nu least most : Int32} (h : ¬ m_rnC (m_sgM tx n i) y fr nu least most = 0) : i < n := by
  rcases Nat.lt_or_ge i n with q | q
  · exact q
  · exfalso
    apply h
    rw [m_rnC, if_pos]
    rw [m_sgM, if_neg (by omega)]
    decide
theorem m_rnL_le {tx : Nat → Int32} {n : Nat} {fr least most : Int32} : ∀ (f i : Nat) (nu : Int32), i ≤ n → (m_rnL tx n fr least most f i nu).1 ≤ n ∧ i ≤ (m_rnL tx n fr least most f i nu).1
  | 0, i, nu, h => ⟨h, Nat.le_refl _⟩
  | f + 1, i, nu, h => by
    rw [m_rnL]
    split
    · exact ⟨h, Nat.le_refl _⟩
    · rename_i c
      have := m_rnL_le (tx := tx) (n := n) (fr := fr) (least := least) (most := most) f (i + 1) (10 * nu + m_sgM tx n i - 48) (m_rnC_lt c)
      exact ⟨this.1, by omega⟩
theorem m_rnR_le {tx : Nat → Int32} {n i : Nat} {least most : Int32} (h : i ≤ n) : (m_rnR tx n i least most).1 ≤ n ∧ i ≤ (m_rnR tx n i least most).1 := m_rnL_le _ _ _ h
theorem m_sg_lt {tx : Nat → Int32} {n i : Nat} {x : Int32} (h : m_sgM tx n i = x) (hx : ¬ x = 0) : i < n := by
  rcases Nat.lt_or_ge i n with q | q
  · exact q
  · rw [m_sgM, if_neg (by omega)] at h
    exact absurd h.symm hx
