/-! the watch: what a part of a trip text does, and the hash -/
def m_exC (g : Nat → Int32) (pt mi nu : Int32) : Nat → Int32 :=
  if pt = 4 then m_swC g (if g 2 = 0 then 1 else 0) else if pt = 5 then m_mkC g else if pt = 2 then m_tripC g mi nu (m_n mi) else if pt = 3 then m_calC g nu else g
theorem z_ok_sw {g : Nat → Int32} {on : Int32} (hg : z_ok g) (hon : on = 0 ∨ on = 1) : z_ok (m_swC g on) := by
  by_cases h : g 2 = on
  · have e : m_swC g on = g := by funext i; rw [m_swC, if_pos h]
    rw [e]; exact hg
  · obtain ⟨h1, h2, h3, h4⟩ := hg
    have a2 : m_swC g on 2 = on := by simp [m_swC, h]
    have a14 : m_swC g on 14 = nI 0 := by simp [m_swC, h]; rfl
    have a13 : m_swC g on 13 = 0 := by simp [m_swC, h]
    have a75 : m_swC g on 75 = g 75 := by simp [m_swC, h]
    refine ⟨?_, ?_, ?_, ?_⟩
    · rw [a14, m_n_nI (by decide)]; exact ⟨rfl, by decide⟩
    · rw [a75]; exact h2
    · rw [a2]; exact hon
    · rw [a13]; exact Or.inl rfl
theorem m_kn_nI {n : Nat} (h : n ≤ 10) : m_kn (nI n) = nI (if n < 10 then n + 1 else 10) := by
  unfold m_kn
  by_cases q : n < 10
  · have c : nI n < 10 := nI_lt (a := n) (b := 10) q (by decide)
    rw [if_pos c, if_pos q]; exact nI_1 n
  · have c : ¬ nI n < 10 := nI_nlt (a := n) (b := 10) (by omega) (by omega)
    rw [if_neg c, if_neg q]; rfl
theorem z_ok_mk {g : Nat → Int32} (hg : z_ok g) : z_ok (m_mkC g) := by
  obtain ⟨h1, h2, h3, h4⟩ := hg
  have a2 : m_mkC g 2 = g 2 := by simp [m_mkC]
  have a14 : m_mkC g 14 = g 14 := by simp [m_mkC]
  have a13 : m_mkC g 13 = g 13 := by simp [m_mkC]
  have a75 : m_mkC g 75 = m_kn (g 75) := by simp [m_mkC]
  refine ⟨by rw [a14]; exact h1, ?_, by rw [a2]; exact h3, by rw [a13]; exact h4⟩
  rw [a75, h2.1, m_kn_nI h2.2, m_n_nI (by split <;> omega)]
  exact ⟨rfl, by split <;> omega⟩
theorem z_ok_cal {g : Nat → Int32} {a : Int32} (hg : z_ok g) : z_ok (m_calC g a) := by
  have a2 : m_calC g a 2 = g 2 := by simp [m_calC, m_seaC]
  have a14 : m_calC g a 14 = g 14 := by simp [m_calC, m_seaC]
  have a13 : m_calC g a 13 = g 13 := by simp [m_calC, m_seaC]
  have a75 : m_calC g a 75 = g 75 := by simp [m_calC, m_seaC]
  unfold z_ok
  rw [a2, a14, a13, a75]; exact hg
theorem z_ok_sea {g : Nat → Int32} {a : Int32} (hg : z_ok g) : z_ok (m_seaC g a) := by
  have a2 : m_seaC g a 2 = g 2 := by simp [m_seaC]
  have a14 : m_seaC g a 14 = g 14 := by simp [m_seaC]
  have a13 : m_seaC g a 13 = g 13 := by simp [m_seaC]
  have a75 : m_seaC g a 75 = g 75 := by simp [m_seaC]
  unfold z_ok
  rw [a2, a14, a13, a75]; exact hg
theorem m_on01 (g : Nat → Int32) : (if g 2 = 0 then (1 : Int32) else 0) = 0 ∨ (if g 2 = 0 then (1 : Int32) else 0) = 1 := by
  split
  · exact Or.inr rfl
  · exact Or.inl rfl
theorem z_ok_ex {g : Nat → Int32} {pt mi nu : Int32} (hg : z_ok g) : z_ok (m_exC g pt mi nu) := by
  unfold m_exC
  split
  · exact z_ok_sw hg (m_on01 g)
  · split
    · exact z_ok_mk hg
    · split
      · exact z_ok_trip hg _
      · split
        · exact z_ok_cal hg
        · exact hg
theorem k_dig {c : Int32} (h1 : ¬ c < 48) (h2 : ¬ 57 < c) : ∃ d : Nat, d ≤ 9 ∧ c = nI (d + 48) := by
  have h0 : ¬ c < 0 := fun h9 => h1 (Int32.lt_trans h9 (by decide))
  obtain ⟨j, hj, rfl⟩ := nI_of h0
  have a := nI_nltn (a := j) (b := 48) (by omega) (by decide) h1
  have b := nI_nltn (a := 57) (b := j) (by decide) (by omega) h2
  exact ⟨j - 48, by omega, by rw [show j - 48 + 48 = j by omega]⟩
def m_mix (h : Int64) (x : Int32) : Int64 := 31 * h + x.toInt64
def m_hr (g : Nat → Int32) (h : Int64) : Int64 :=
  m_mix (m_mix (m_mix (m_mix (m_mix (m_mix (m_mix (m_mix (m_mix (m_mix (m_mix (m_mix (m_mix (m_mix h (g 2)) (g 0)) (m_std (g 0) - m_std (g 1))) (g 4)) (g 1)) (g 5)) (g 6)) (g 7)) (g 8)) (g 9)) (g 14)) (m_fall (m_n (g 14)) (m_log g))) (g 12)) (m_al (m_n (g 14)) (m_log g) (g 11))
def m_hm (g : Nat → Int32) (h : Int64) : Nat → Int64
  | 0 => m_mix h (g 75)
  | i + 1 => m_mix (m_mix (m_mix (m_hm g h i) (g (4 * i + 76))) (g (4 * i + 77))) (g (4 * i + 78) - g 78)
def m_dg (g : Nat → Int32) : Int64 := m_mix (m_mix (m_hm g (m_hr g 4369) (m_n (g 75))) (m_down (1000 + m_std (g 1)) 5000 6001)) (m_muC g 5)
theorem m_el_tr {n i : Nat} {f : Nat → Int32} {x : Int32} (hx : x = nI i) (hi : i < n) (hn : n < 2 ^ 31) : m_el n (z_tr n f) x = f i := by
  rw [hx, m_el_in hi hn, z_tr_lt hi]

