/-! what the law asks of a trip -/
section TR
variable {T : Nat} {g : Nat → Int32} {n p : Int32}
theorem t_all (hg : z_g T g) (h : (1 ≤ n ∧ n ≤ 120) ∧ (5000 ≤ p ∧ p ≤ 11000)) :
    z_inv (m_tripC g n p (m_n n)) ∧ z_lg (m_tripC g n p (m_n n)) ∧ ∃ M a d b a' d' b' : Nat, z_ct T M a d b g ∧ z_ct (T + 120) (M + m_n n) a' d' b' (m_tripC g n p (m_n n)) ∧ a ≤ a' ∧ d ≤ d' ∧ b ≤ b' ∧ b' ≤ b + m_n n ∧ (¬ g 2 = 0 → a' = a ∧ d' = d) := by
  obtain ⟨hi, hl, M, a, d, b, hc⟩ := hg
  obtain ⟨hp, hP⟩ := k_pr h.2
  obtain ⟨hn, hn1, hn2⟩ := k_mi h.1
  obtain ⟨i1, i2, a', d', b', i3, i4⟩ := z_trip_ct hi hl hc hn hn1 hn2 hp hP (m_n n) (Nat.le_refl _)
  obtain ⟨j1, j2⟩ := i3
  exact ⟨i1, i2, M, a, d, b, a', d', b', hc, ⟨by omega, j2⟩, i4⟩
theorem t_g (hg : z_g T g) (h : (1 ≤ n ∧ n ≤ 120) ∧ (5000 ≤ p ∧ p ≤ 11000)) : z_g (T + 120) (m_tripC g n p (m_n n)) := by
  obtain ⟨i1, i2, M, a, d, b, a', d', b', -, j, -⟩ := t_all hg h
  exact ⟨i1, i2, _, _, _, _, j⟩
theorem t_ok (hg : z_g T g) : z_ok (m_tripC g n p (m_n n)) := z_ok_trip hg.1.1 _
theorem t_hat (hg : z_g T g) (h : (1 ≤ n ∧ n ≤ 120) ∧ (5000 ≤ p ∧ p ≤ 11000)) : m_std (m_tripC g n p (m_n n) 0) - m_std (m_tripC g n p (m_n n) 1) = m_hatC g p := by
  obtain ⟨hp, hP⟩ := k_pr h.2
  obtain ⟨hn, hn1, hn2⟩ := k_mi h.1
  exact m_hat_eq hg.1 hn hn1 hn2 hp hP
theorem t_end {nn Pe : Nat} (hg : z_inv g) (hn : n = nI nn) (hn1 : 1 ≤ nn) (hn2 : nn ≤ 120) (hp : p = nI Pe) (hP : 5000 ≤ Pe ∧ Pe ≤ 11000) : m_tripC g n p nn 0 = p := by
  obtain ⟨A, eA, hA⟩ := hg.2.1
  have eq : m_way (g 0) p (nI nn) n = nI Pe := by rw [eA, hp, hn]; exact m_way_end hA hP hn1 hn2
  rw [m_tripC_pos hn1, eq, hp]
  simp [m_minC]
theorem t_0 (hg : z_g T g) (h : (1 ≤ n ∧ n ≤ 120) ∧ (5000 ≤ p ∧ p ≤ 11000)) : m_tripC g n p (m_n n) 0 = p := by
  obtain ⟨hp, hP⟩ := k_pr h.2
  obtain ⟨hn, hn1, hn2⟩ := k_mi h.1
  exact t_end hg.1 hn hn1 hn2 hp hP
theorem t_4 (hg : z_g T g) (h : (1 ≤ n ∧ n ≤ 120) ∧ (5000 ≤ p ∧ p ≤ 11000)) : m_tripC g n p (m_n n) 4 = g 4 + n := by
  obtain ⟨-, -, M, a, d, b, a', d', b', c, j, -⟩ := t_all hg h
  obtain ⟨hn, hn1, hn2⟩ := k_mi h.1
  rw [j.2.1, c.2.1]
  generalize m_n n = nn at hn ⊢
  rw [hn, nI_add]
theorem t_7 : m_tripC g n p (m_n n) 7 = g 7 + m_ascR g n p (m_n n) := by
  rw [← m_asc_eq (g := g) (n := n) (p := p) (m_n n), Int32.sub_eq_add_neg, Int32.add_comm, Int32.add_assoc, Int32.add_comm (-g 7), Int32.add_right_neg, Int32.add_zero]
theorem t_a0 (hT : T ≤ 5000) (hg : z_g T g) (h : (1 ≤ n ∧ n ≤ 120) ∧ (5000 ≤ p ∧ p ≤ 11000)) : ¬ m_ascR g n p (m_n n) < 0 := by
  obtain ⟨-, -, M, a, d, b, a', d', b', c, j, h1, h2, -⟩ := t_all hg h
  obtain ⟨c1, c2, c3, c4, c5, c6, c7⟩ := c
  obtain ⟨j1, j2, j3, j4, j5, j6, j7⟩ := j
  rw [← m_asc_eq, j3, c3, pk_sub h1]
  exact nI_pos (by omega)
theorem t_12a (hT : T ≤ 5000) (hg : z_g T g) (h : (1 ≤ n ∧ n ≤ 120) ∧ (5000 ≤ p ∧ p ≤ 11000)) : ¬ m_tripC g n p (m_n n) 12 < g 12 := by
  obtain ⟨-, -, M, a, d, b, a', d', b', c, j, h1, h2, h3, h4, -⟩ := t_all hg h
  obtain ⟨c1, c2, c3, c4, c5, c6, c7⟩ := c
  obtain ⟨j1, j2, j3, j4, j5, j6, j7⟩ := j
  rw [j6, c6]
  exact nI_nlt h3 (by omega)
theorem t_12b (hT : T ≤ 5000) (hg : z_g T g) (h : (1 ≤ n ∧ n ≤ 120) ∧ (5000 ≤ p ∧ p ≤ 11000)) : ¬ g 12 + n < m_tripC g n p (m_n n) 12 := by
  obtain ⟨-, -, M, a, d, b, a', d', b', c, j, h1, h2, h3, h4, -⟩ := t_all hg h
  obtain ⟨c1, c2, c3, c4, c5, c6, c7⟩ := c
  obtain ⟨j1, j2, j3, j4, j5, j6, j7⟩ := j
  obtain ⟨hn, hn1, hn2⟩ := k_mi h.1
  rw [j6, c6]
  generalize m_n n = nn at hn hn1 hn2 h4 ⊢
  rw [hn, nI_add]
  exact nI_nlt h4 (by omega)
theorem t_2 : m_tripC g n p (m_n n) 2 = g 2 := (m_trip_st _).1
theorem t_st7 (hg : z_g T g) (h : (1 ≤ n ∧ n ≤ 120) ∧ (5000 ≤ p ∧ p ≤ 11000)) (h2 : ¬ g 2 = 0) : m_tripC g n p (m_n n) 7 = g 7 ∧ m_tripC g n p (m_n n) 8 = g 8 := by
  obtain ⟨-, -, M, a, d, b, a', d', b', c, j, -, -, -, -, h5⟩ := t_all hg h
  obtain ⟨e1, e2⟩ := h5 h2
  rw [j.2.2.1, j.2.2.2.1, c.2.2.1, c.2.2.2.1, e1, e2]
  exact ⟨rfl, rfl⟩
theorem t_mv1 (h2 : g 2 = 0) : m_tripC g n p (m_n n) 1 = g 1 := (m_trip_st _).2.2.2.1 h2
theorem t_mv8 (hT : T ≤ 5000) (hg : z_g T g) (h : (1 ≤ n ∧ n ≤ 120) ∧ (5000 ≤ p ∧ p ≤ 11000)) : ¬ m_tripC g n p (m_n n) 8 < g 8 := by
  obtain ⟨-, -, M, a, d, b, a', d', b', c, j, h1, h2, h3, h4, -⟩ := t_all hg h
  obtain ⟨c1, c2, c3, c4, c5, c6, c7⟩ := c
  obtain ⟨j1, j2, j3, j4, j5, j6, j7⟩ := j
  rw [j4, c4]
  exact nI_nlt h2 (by omega)
end TR
/-! the watch set -/
theorem z_g_sw {T : Nat} {g : Nat → Int32} {on : Int32} (hg : z_g T g) (hon : on = 0 ∨ on = 1) : z_g T (m_swC g on) := by
  by_cases hne : g 2 = on
  · have e : m_swC g on = g := by funext i; rw [m_swC, if_pos hne]
    rw [e]; exact hg
  · refine z_g_of hg (z_inv_sw hg.1 hon) ?_ ?_ ?_ ?_ (z_lg_0 ?_) <;> simp [m_swC, hne]
theorem z_g_sea {T S : Nat} {g : Nat → Int32} {v : Int32} (hg : z_g T g) (hv : v = nI S) (hS : 9000 ≤ S ∧ S ≤ 10800) : z_g T (m_seaC g v) := by
  refine z_g_of hg (z_inv_sea hg.1 hv hS) ?_ ?_ ?_ ?_ (z_lg_of hg.2.1 ?_ (fun k hk => ?_) hg.1.1.1.2) <;> simp [m_seaC]
theorem z_g_cal {T : Nat} {g : Nat → Int32} {a : Int32} (hg : z_g T g) (ha : -100000 ≤ a.toInt ∧ a.toInt ≤ 100000) : z_g T (m_calC g a) := by
  refine z_g_of hg (z_inv_cal hg.1 ha) ?_ ?_ ?_ ?_ (z_lg_of hg.2.1 ?_ (fun k hk => ?_) hg.1.1.1.2) <;> simp [m_calC, m_seaC]
theorem z_g_thr {T S : Nat} {g : Nat → Int32} {x : Int32} (hg : z_g T g) (hx : x = nI S) (hS : 10 ≤ S ∧ S ≤ 500) : z_g T (upd g 10 x) := by
  refine z_g_of hg (z_inv_thr hg.1 hx hS) ?_ ?_ ?_ ?_ (z_lg_of hg.2.1 ?_ (fun k hk => ?_) hg.1.1.1.2) <;> exact pk_un (by omega)
theorem z_g_lim {T S : Nat} {g : Nat → Int32} {x : Int32} (hg : z_g T g) (hx : x = nI S) (hS : 10 ≤ S ∧ S ≤ 200) : z_g T (upd g 11 x) := by
  refine z_g_of hg (z_inv_lim hg.1 hx hS) ?_ ?_ ?_ ?_ (z_lg_of hg.2.1 ?_ (fun k hk => ?_) hg.1.1.1.2) <;> exact pk_un (by omega)
theorem m_mkC_lo {g : Nat → Int32} {i : Nat} (h : i < 75) : m_mkC g i = g i := by
  unfold m_mkC
  rw [if_neg (by omega), if_neg (by omega)]
theorem z_g_mk {T : Nat} {g : Nat → Int32} (hg : z_g T g) : z_g T (m_mkC g) :=
  z_g_of hg (z_inv_mk hg.1) (m_mkC_lo (by decide)) (m_mkC_lo (by decide)) (m_mkC_lo (by decide)) (m_mkC_lo (by decide)) (z_lg_of hg.2.1 (m_mkC_lo (by decide)) (fun k hk => m_mkC_lo (by omega)) hg.1.1.1.2)
/-! climbs add up to the base -/
def z_cl (g : Nat → Int32) : Prop := g 2 = 0 ∧ g 9 = g 7 - g 8
theorem k_up {b a d x : Int32} (h : b = a - d) : x = a + (x - b) - d := by
  subst h
  simp only [Int32.sub_eq_add_neg, Int32.neg_add, Int32.neg_neg]
  have : ∀ a x d : Int32, x = a + (x + (-a + d)) + -d := by
    intro a x d
    rw [← Int32.add_assoc x, Int32.add_comm x, ← Int32.add_assoc, ← Int32.add_assoc, Int32.add_right_neg, Int32.zero_add, Int32.add_assoc, Int32.add_right_neg, Int32.add_zero]
  exact this a x d
theorem k_dn {b a d x : Int32} (h : b = a - d) : x = a - (d + (b - x)) := by
  subst h
  simp only [Int32.sub_eq_add_neg, Int32.neg_add, Int32.neg_neg]
  have : ∀ a x d : Int32, x = a + (-d + (-a + d + x)) := by
    intro a x d
    rw [Int32.add_assoc (-a), ← Int32.add_assoc (-d), Int32.add_comm (-d), ← Int32.add_assoc, ← Int32.add_assoc, ← Int32.add_assoc, Int32.add_right_neg, Int32.zero_add, Int32.add_left_neg, Int32.zero_add]
  exact this a x d
theorem z_cl_min {g : Nat → Int32} {p : Int32} (h : z_cl g) : z_cl (m_minC g p) := by
  obtain ⟨c, h9⟩ := h
  have f2 : m_minC g p 2 = g 2 := by simp [m_minC]
  have f7 : m_minC g p 7 = m_ta (g 9) (g 7) (g 10) (m_std p - m_std (g 1)) := by simp [m_minC, c]
  have f8 : m_minC g p 8 = m_td (g 9) (g 8) (g 10) (m_std p - m_std (g 1)) := by simp [m_minC, c]
  have f9 : m_minC g p 9 = m_tb (g 9) (g 10) (m_std p - m_std (g 1)) := by simp [m_minC, c]
  refine ⟨f2.trans c, ?_⟩
  rw [f7, f8, f9]
  unfold m_ta m_td m_tb
  split
  · exact k_up h9
  · split
    · exact k_dn h9
    · exact h9
theorem z_cl_trip {g : Nat → Int32} {n p : Int32} (h : z_cl g) : ∀ k, z_cl (m_tripC g n p k)
  | 0 => h
  | k + 1 => z_cl_min (z_cl_trip h k)
theorem z_cl_thr {g : Nat → Int32} {x : Int32} (h : z_cl g) : z_cl (upd g 10 x) := h
theorem z_cl0 : z_cl m_g0 := ⟨rfl, rfl⟩
