/-! a deed of the law: which state it makes -/
def a_od (y : Int32) : Int32 := if y &&& 1 = 1 then 1 else 0
theorem a_od01 (y : Int32) : a_od y = 0 ∨ a_od y = 1 := by
  unfold a_od
  split
  · exact Or.inr rfl
  · exact Or.inl rfl
def a_al (g : Nat → Int32) (y : Int32) : Int32 := a_wi (if y &&& 1 = 0 then a_up (y >>> (1 &&& 31)) 55001 - 5000 else m_std (g 0) - m_std (g 1) + a_up (y >>> (1 &&& 31)) 601 - 300) (-5000) 50000
theorem a_al_r (g : Nat → Int32) (y : Int32) : -5000 ≤ a_al g y ∧ a_al g y ≤ 50000 := a_wi_r (by decide)
def a_mi (y : Int32) : Int32 := 1 + a_up y (if y >>> (9 &&& 31) &&& 3 = 0 then 120 else 15)
def a_pr (g : Nat → Int32) (y : Int32) : Int32 := a_wi (if y >>> (10 &&& 31) &&& 1 = 0 then (5000 : Int32) + a_up (y >>> (11 &&& 31)) 6001 else g 0 + a_up (y >>> (11 &&& 31)) 301 - 150) 5000 11000
theorem a_tr (g : Nat → Int32) (y : Int32) : (1 ≤ a_mi y ∧ a_mi y ≤ 120) ∧ (5000 ≤ a_pr g y ∧ a_pr g y ≤ 11000) := by
  refine ⟨?_, a_wi_r (by decide)⟩
  unfold a_mi
  split
  · exact a_rg y (lo := 1) (k := 120) rfl rfl rfl (by decide) (by decide)
  · have := a_rg y (lo := 1) (k := 15) (K := 15) (LO := 1) (HI := 15) rfl rfl rfl (by decide) (by decide)
    exact ⟨this.1, Int32.le_trans this.2 (by decide)⟩
def a_gA (g ga : Nat → Int32) (y : Int32) : Nat → Nat → Int32
  | 0 => m_swC g (a_od y)
  | 1 => m_swC g (a_od y)
  | 2 => m_seaC g (9000 + a_up y 1801)
  | 3 => m_calC g (a_al g y)
  | 4 => m_calC g (a_al g y)
  | 5 => upd g 10 (10 + a_up y 491)
  | 6 => upd g 11 (10 + a_up y 191)
  | 7 => m_mkC g
  | 8 => if y &&& 3 = 0 then ga else m_mkC g
  | _ + 9 => m_tripC g (a_mi y) (a_pr g y) (m_n (a_mi y))
theorem a_sea (y : Int32) : 9000 ≤ 9000 + a_up y 1801 ∧ 9000 + a_up y 1801 ≤ 10800 := a_rg y (lo := 9000) (k := 1801) rfl rfl rfl (by decide) (by decide)
theorem a_thr (y : Int32) : 10 ≤ 10 + a_up y 491 ∧ 10 + a_up y 491 ≤ 500 := a_rg y (lo := 10) (k := 491) rfl rfl rfl (by decide) (by decide)
theorem a_lim (y : Int32) : 10 ≤ 10 + a_up y 191 ∧ 10 + a_up y 191 ≤ 200 := a_rg y (lo := 10) (k := 191) rfl rfl rfl (by decide) (by decide)
theorem k_sg {x : Int32} (h : -5000 ≤ x ∧ x ≤ 50000) : -100000 ≤ x.toInt ∧ x.toInt ≤ 100000 := by
  obtain ⟨h1, h2⟩ := h
  rw [fa_le] at h1 h2
  have e1 : (-5000 : Int32).toInt = -5000 := by decide +kernel
  have e2 : (50000 : Int32).toInt = 50000 := by decide +kernel
  rw [e1] at h1
  rw [e2] at h2
  omega
theorem z_g_acts {T : Nat} {g ga : Nat → Int32} (hg : z_g T g) (hga : z_g T ga) (y : Int32) : ∀ j, z_g (T + 120) (a_gA g ga y j)
  | 0 => z_g_up (z_g_sw hg (a_od01 y)) (by omega)
  | 1 => z_g_up (z_g_sw hg (a_od01 y)) (by omega)
  | 2 => by
    obtain ⟨S, e, h1, h2⟩ := a_rgN y (lo := 9000) (k := 1801) (K := 1801) (LO := 9000) rfl rfl (by decide) (by decide)
    exact z_g_up (z_g_sea hg e ⟨h1, by omega⟩) (by omega)
  | 3 => z_g_up (z_g_cal hg (k_sg (a_al_r g y))) (by omega)
  | 4 => z_g_up (z_g_cal hg (k_sg (a_al_r g y))) (by omega)
  | 5 => by
    obtain ⟨S, e, h1, h2⟩ := a_rgN y (lo := 10) (k := 491) (K := 491) (LO := 10) rfl rfl (by decide) (by decide)
    exact z_g_up (z_g_thr hg e ⟨h1, by omega⟩) (by omega)
  | 6 => by
    obtain ⟨S, e, h1, h2⟩ := a_rgN y (lo := 10) (k := 191) (K := 191) (LO := 10) rfl rfl (by decide) (by decide)
    exact z_g_up (z_g_lim hg e ⟨h1, by omega⟩) (by omega)
  | 7 => z_g_up (z_g_mk hg) (by omega)
  | 8 => by
    show z_g (T + 120) (if y &&& 3 = 0 then ga else m_mkC g)
    split
    · exact z_g_up hga (by omega)
    · exact z_g_up (z_g_mk hg) (by omega)
  | j + 9 => t_g hg (a_tr g y)
theorem z_ok_thr {g : Nat → Int32} {x : Int32} (h : z_ok g) : z_ok (upd g 10 x) := h
theorem z_ok_lim {g : Nat → Int32} {x : Int32} (h : z_ok g) : z_ok (upd g 11 x) := h
theorem s_2 {g : Nat → Int32} {on : Int32} : m_swC g on 2 = on := by
  unfold m_swC
  split
  · assumption
  · rfl
theorem s_14 {g : Nat → Int32} {on : Int32} (h : ¬ m_swC g on 2 = g 2) : m_swC g on 14 = 0 := by
  rw [s_2] at h
  unfold m_swC
  rw [if_neg (fun z => h z.symm)]
  rfl
theorem sea_b {g : Nat → Int32} {v : Int32} : m_seaC g v 9 = m_std (m_seaC g v 0) - m_std (m_seaC g v 1) := rfl
theorem cal_b {g : Nat → Int32} {a : Int32} : m_calC g a 9 = m_std (m_calC g a 0) - m_std (m_calC g a 1) := by
  simp [m_calC, m_seaC]
theorem h_10 {T : Nat} {g : Nat → Int32} (hg : z_g T g) : ¬ g 10 < 10 := by
  obtain ⟨S, e, h⟩ := hg.1.2.2.2.2.2.1
  rw [e]
  exact nI_nlt (b := 10) h.1 (by omega)
theorem h_11 {T : Nat} {g : Nat → Int32} (hg : z_g T g) : ¬ g 11 < 10 := by
  obtain ⟨S, e, h⟩ := hg.1.2.2.2.2.2.2.1
  rw [e]
  exact nI_nlt (b := 10) h.1 (by omega)
theorem kn_ge {c : Int32} (h : 10 ≤ c) : m_kn c = 10 := by
  unfold m_kn
  rw [if_neg (Int32.not_lt.mpr h)]
theorem kn_lt {c : Int32} (h : ¬ 10 ≤ c) : m_kn c = c + 1 := by
  unfold m_kn
  rw [if_pos (Int32.not_le.mp h)]
theorem kn_nI {c : Nat} (h : c ≤ 10) : m_kn (nI c) = nI (m_mkN c + 1) := by
  unfold m_mkN
  by_cases q : c = 10
  · rw [if_pos q, q]
    decide +kernel
  · rw [if_neg q, kn_lt (fun z => by have := nI_len (a := 10) (b := c) (by decide) (by omega) z; omega), nI_1]
theorem mk_75 {g : Nat → Int32} (hg : z_ok g) : ∃ i : Nat, i < 10 ∧ i = m_mkN (m_n (g 75)) ∧ m_mkC g 75 = nI (i + 1) ∧ m_mkC g 75 - 1 = nI i := by
  obtain ⟨e, h⟩ := hg.2.1
  have e1 : m_mkC g 75 = nI (m_mkN (m_n (g 75)) + 1) := by
    have : m_mkC g 75 = m_kn (g 75) := rfl
    rw [this]
    generalize m_n (g 75) = c at e h
    rw [e]
    exact kn_nI h
  refine ⟨m_mkN (m_n (g 75)), ?_, rfl, e1, ?_⟩
  · unfold m_mkN
    split <;> omega
  · rw [e1]
    exact nI_pred _
theorem mk_ix {g : Nat → Int32} (hg : z_ok g) : 0 ≤ m_mkC g 75 - 1 ∧ m_mkC g 75 - 1 < m_mkC g 75 := by
  obtain ⟨i, hi, -, e1, e2⟩ := mk_75 hg
  rw [e2, e1]
  exact ⟨nI_pos' (by omega), nI_lt (by omega) (by omega)⟩
theorem el_at {n i : Nat} {f : Nat → Int32} (hi : i < n) (hn : n < 2 ^ 31) : m_el n f (nI i) = f i := by
  unfold m_el
  rw [if_neg (nI_pos (by omega)), if_neg (fun z => by have := nI_len hn (by omega) z; omega), nI_clamp (by omega)]
theorem mk_t {g : Nat → Int32} (hg : z_ok g) : m_el 10 (z_tr 10 (fun k => m_mkC g (4 * k + 76))) (m_mkC g 75 - 1) = m_mkC g 4 := by
  obtain ⟨i, hi, ei, e1, e2⟩ := mk_75 hg
  obtain ⟨e, h⟩ := hg.2.1
  rw [e2, el_at hi (by decide), ← m_mkC_0 hg, m_mkC_lo (by decide)]
  generalize z_tr 10 (fun k => g (4 * k + 76)) = f
  generalize m_n (g 75) = c at e h ei
  rw [e, m_kf_in h hi, if_pos ei]
theorem mk_h {g : Nat → Int32} (hg : z_ok g) : m_el 10 (z_tr 10 (fun k => m_mkC g (4 * k + 77))) (m_mkC g 75 - 1) = m_std (m_mkC g 0) - m_std (m_mkC g 1) := by
  obtain ⟨i, hi, ei, e1, e2⟩ := mk_75 hg
  obtain ⟨e, h⟩ := hg.2.1
  rw [e2, el_at hi (by decide), ← m_mkC_1 hg, m_mkC_lo (by decide), m_mkC_lo (by decide)]
  generalize z_tr 10 (fun k => g (4 * k + 77)) = f
  generalize m_n (g 75) = c at e h ei
  rw [e, m_kf_in h hi, if_pos ei]
