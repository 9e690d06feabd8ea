section RR2
variable {nx nx1 nx2 : Int32}
theorem r_ne1 (h : nx = nI (m_n nx) ∧ m_n nx < 6) (e : nx1 = nI ((m_n nx + 1) % 6)) : m_n nx ≠ m_n nx1 := by
  rw [r_n1 e]
  omega
theorem r_ne2 (h : nx = nI (m_n nx) ∧ m_n nx < 6) (e : nx1 = nI ((m_n nx + 1) % 6)) (e2 : nx2 = nI ((m_n nx1 + 1) % 6)) : m_n nx ≠ m_n nx2 := by
  rw [r_n1 e2, r_n1 e]
  omega
end RR2
