/-! class and reference alike: the settings, marks, calibrations; the saved states -/
theorem z_inv_g0 : z_inv m_g0 := by
  refine ⟨⟨⟨by decide, by decide⟩, ⟨by decide, by decide⟩, Or.inl rfl, Or.inl rfl⟩, ⟨10132, rfl, by decide, by decide⟩, ⟨10132, rfl, by decide, by decide⟩, ⟨by decide, by decide⟩, ⟨by decide, by decide⟩, ⟨50, rfl, by decide, by decide⟩, ⟨40, rfl, by decide, by decide⟩, fun _ => ⟨rfl, rfl⟩⟩
theorem z_alt_rg {g : Nat → Int32} (hg : z_rg g) : -100000 ≤ (m_std (g 0) - m_std (g 1)).toInt ∧ (m_std (g 0) - m_std (g 1)).toInt ≤ 100000 := by
  obtain ⟨⟨P, h0, hP⟩, ⟨S, h1, hS⟩, -⟩ := hg
  rw [h0, h1]
  exact m_alt_rg hP (by omega)
section OPS
variable {sv g : Nat → Int32}
theorem z_inv_sw {on : Int32} (hg : z_inv g) (hon : on = 0 ∨ on = 1) : z_inv (m_swC g on) := by
  refine ⟨z_ok_sw hg.1 hon, ?_⟩
  by_cases hne : g 2 = on
  · have e : m_swC g on = g := by funext i; rw [m_swC, if_pos hne]
    rw [e]; exact hg.2
  · have ra := z_alt_rg hg.2
    obtain ⟨h0, h1, h3, h9, h10, h11, h2⟩ := hg.2
    have e0 : m_swC g on 0 = g 0 := by simp [m_swC, hne]
    have e1 : m_swC g on 1 = g 1 := by simp [m_swC, hne]
    have e10 : m_swC g on 10 = g 10 := by simp [m_swC, hne]
    have e11 : m_swC g on 11 = g 11 := by simp [m_swC, hne]
    have e13 : m_swC g on 13 = 0 := by simp [m_swC, hne]
    have e14 : m_swC g on 14 = 0 := by simp [m_swC, hne]
    have e3 : m_swC g on 3 = if on = 0 then g 3 else m_std (g 0) - m_std (g 1) := by simp [m_swC, hne]
    have e9 : m_swC g on 9 = if on = 0 then m_std (g 0) - m_std (g 1) else g 9 := by simp [m_swC, hne]
    unfold z_rg
    rw [e0, e1, e10, e11, e13, e14, e3, e9]
    refine ⟨h0, h1, ?_, ?_, h10, h11, fun _ => ⟨rfl, rfl⟩⟩
    · by_cases z : on = 0
      · rw [if_pos z]; exact h3
      · rw [if_neg z]; exact ra
    · by_cases z : on = 0
      · rw [if_pos z]; exact ra
      · rw [if_neg z]; exact h9
theorem z_rg_sea {v : Int32} {S : Nat} (hg : z_rg g) (hv : v = nI S) (hS : 9000 ≤ S ∧ S ≤ 10800) : z_rg (m_seaC g v) := by
  obtain ⟨⟨P, h0, hP⟩, h1, h3, h9, h10, h11, h2⟩ := hg
  have ra := m_alt_rg hP (S := S) (by omega)
  rw [← h0, ← hv] at ra
  have e0 : m_seaC g v 0 = g 0 := by simp [m_seaC]
  have e1 : m_seaC g v 1 = v := by simp [m_seaC]
  have e2 : m_seaC g v 2 = g 2 := by simp [m_seaC]
  have e10 : m_seaC g v 10 = g 10 := by simp [m_seaC]
  have e11 : m_seaC g v 11 = g 11 := by simp [m_seaC]
  have e13 : m_seaC g v 13 = g 13 := by simp [m_seaC]
  have e14 : m_seaC g v 14 = g 14 := by simp [m_seaC]
  have e3 : m_seaC g v 3 = if g 2 = 0 then g 3 else m_std (g 0) - m_std v := by simp [m_seaC]
  have e9 : m_seaC g v 9 = m_std (g 0) - m_std v := by simp [m_seaC]
  unfold z_rg
  rw [e0, e1, e2, e10, e11, e13, e14, e3, e9]
  refine ⟨⟨P, h0, hP⟩, ⟨S, hv, hS⟩, ?_, ra, h10, h11, h2⟩
  split
  · exact h3
  · exact ra
theorem z_inv_cal {a : Int32} (hg : z_inv g) (ha : -100000 ≤ a.toInt ∧ a.toInt ≤ 100000) : z_inv (m_calC g a) := by
  refine ⟨z_ok_cal hg.1, ?_⟩
  obtain ⟨P, h0, hP⟩ := hg.2.1
  obtain ⟨S, hS, hS2⟩ := m_near_rg hP ha
  rw [← h0] at hS
  have hr := z_rg_sea hg.2 hS hS2
  have e : ∀ i, i ≠ 5 → i ≠ 6 → m_calC g a i = m_seaC g (m_near (g 0) a) i := by
    intro i h5 h6
    unfold m_calC
    rw [if_neg h5, if_neg h6]
  unfold z_rg at hr ⊢
  rw [e 0 (by decide) (by decide), e 1 (by decide) (by decide), e 2 (by decide) (by decide), e 3 (by decide) (by decide), e 9 (by decide) (by decide), e 10 (by decide) (by decide), e 11 (by decide) (by decide), e 13 (by decide) (by decide), e 14 (by decide) (by decide)]
  exact hr
theorem z_inv_sea {v : Int32} {S : Nat} (hg : z_inv g) (hv : v = nI S) (hS : 9000 ≤ S ∧ S ≤ 10800) : z_inv (m_seaC g v) := ⟨z_ok_sea hg.1, z_rg_sea hg.2 hv hS⟩
/-! marks -/
theorem m_kf_in {f : Nat → Int32} {p : Int32} {c k : Nat} (hc : c ≤ 10) (hk : k < 10) : m_kf (nI c) f p k = if k = m_mkN c then p else if c = 10 then (if k < 9 then f (k + 1) else f k) else f k := by
  unfold m_kf m_mkN
  by_cases q : c = 10
  · subst q
    rw [if_neg (by decide), if_pos rfl, if_pos rfl]
    unfold upd m_up
    by_cases d : k = 9
    · rw [if_pos d, if_pos d]
    · rw [if_neg d, if_neg d, if_pos (by omega), if_pos (by omega)]
  · rw [if_pos (show nI c < (10 : Int32) from nI_lt (a := c) (b := 10) (by omega) (by decide)), if_neg q, if_neg q, nI_clamp (by omega)]
    rfl
theorem z_inv_mk (hg : z_inv g) : z_inv (m_mkC g) := by
  refine ⟨z_ok_mk hg.1, ?_⟩
  have e : ∀ i, i < 75 → m_mkC g i = g i := by
    intro i hi
    unfold m_mkC
    rw [if_neg (by omega), if_neg (by omega)]
  unfold z_rg
  rw [e 0 (by decide), e 1 (by decide), e 2 (by decide), e 3 (by decide), e 9 (by decide), e 10 (by decide), e 11 (by decide), e 13 (by decide), e 14 (by decide)]
  exact hg.2
/-! threshold, limit -/
theorem m_upd_eq (h : ∀ i, i < 116 → sv i = g i) {k : Nat} {x : Int32} {i : Nat} (hi : i < 116) : upd sv k x i = upd g k x i := by
  unfold upd
  split
  · rfl
  · exact h i hi
theorem z_inv_thr {x : Int32} {T : Nat} (hg : z_inv g) (hx : x = nI T) (hT : 10 ≤ T ∧ T ≤ 500) : z_inv (upd g 10 x) := by
  have e : ∀ i, i ≠ 10 → upd g 10 x i = g i := fun i h => pk_un h
  have e10 : upd g 10 x 10 = x := pk_us
  unfold z_inv z_ok z_rg
  rw [e10, e 0 (by decide), e 1 (by decide), e 2 (by decide), e 3 (by decide), e 9 (by decide), e 11 (by decide), e 13 (by decide), e 14 (by decide), e 75 (by decide)]
  obtain ⟨hok, h0, h1, h3, h9, h10, h11, h2⟩ := hg
  exact ⟨hok, h0, h1, h3, h9, ⟨T, hx, hT⟩, h11, h2⟩
theorem z_inv_lim {x : Int32} {T : Nat} (hg : z_inv g) (hx : x = nI T) (hT : 10 ≤ T ∧ T ≤ 200) : z_inv (upd g 11 x) := by
  have e : ∀ i, i ≠ 11 → upd g 11 x i = g i := fun i h => pk_un h
  have e11 : upd g 11 x 11 = x := pk_us
  unfold z_inv z_ok z_rg
  rw [e11, e 0 (by decide), e 1 (by decide), e 2 (by decide), e 3 (by decide), e 9 (by decide), e 10 (by decide), e 13 (by decide), e 14 (by decide), e 75 (by decide)]
  obtain ⟨hok, h0, h1, h3, h9, h10, h11, h2⟩ := hg
  exact ⟨hok, h0, h1, h3, h9, h10, ⟨T, hx, hT⟩, h2⟩
end OPS
/-! the row of saved states -/
section RR
variable {sv fl : Nat → Int32} {d : Nat} {nx ct f0 f1 : Int32} {g ga gb : Nat → Int32} {v : Nat → Nat → Int32}
theorem z_inv_b2 {g : Nat → Int32} (h : z_inv g) : z_b2 g := ⟨h.1.2.2.1, h.1.2.2.2⟩
end RR

