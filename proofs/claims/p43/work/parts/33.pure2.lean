/-! class and reference alike: a minute, a trip -/
def z_rg (g : Nat → Int32) : Prop := (∃ P : Nat, g 0 = nI P ∧ 5000 ≤ P ∧ P ≤ 11000) ∧ (∃ S : Nat, g 1 = nI S ∧ 9000 ≤ S ∧ S ≤ 10800) ∧ (-100000 ≤ (g 3).toInt ∧ (g 3).toInt ≤ 100000) ∧ (-100000 ≤ (g 9).toInt ∧ (g 9).toInt ≤ 100000) ∧
  (∃ T : Nat, g 10 = nI T ∧ 10 ≤ T ∧ T ≤ 500) ∧ (∃ L : Nat, g 11 = nI L ∧ 10 ≤ L ∧ L ≤ 200) ∧ (g 2 = 0 → g 14 = 0 ∧ g 13 = 0)
def m_lgC (m : Nat) : Nat := if m = 60 then 59 else m
def m_mkN (c : Nat) : Nat := if c = 10 then 9 else c
def z_inv (g : Nat → Int32) : Prop := z_ok g ∧ z_rg g
theorem m_alt_rg {P S : Nat} (hP : 5000 ≤ P ∧ P ≤ 11000) (hS : 5000 ≤ S ∧ S ≤ 11000) : -100000 ≤ (m_std (nI P) - m_std (nI S)).toInt ∧ (m_std (nI P) - m_std (nI S)).toInt ≤ 100000 := by
  have r1 := m_stdN_rng hP.1 hP.2
  have r2 := m_stdN_rng hS.1 hS.2
  rw [m_dif hP hS]
  omega
theorem z_rg_min {g : Nat → Int32} {p : Int32} {P : Nat} (hg : z_rg g) (hp : p = nI P) (hP : 5000 ≤ P ∧ P ≤ 11000) : z_rg (m_minC g p) := by
  obtain ⟨h0, ⟨S, h1, h1a, h1b⟩, h3, h9, ⟨T, h10, h10a, h10b⟩, h11, h2⟩ := hg
  have e0 : m_minC g p 0 = p := by simp [m_minC]
  have e2 : m_minC g p 2 = g 2 := by simp [m_minC]
  have e3 : m_minC g p 3 = g 3 := by simp [m_minC]
  have e10 : m_minC g p 10 = g 10 := by simp [m_minC]
  have e11 : m_minC g p 11 = g 11 := by simp [m_minC]
  unfold z_rg
  rw [e0, e2, e3, e10, e11]
  by_cases c : g 2 = 0
  · have e1 : m_minC g p 1 = g 1 := by simp [m_minC, c]
    have e9 : m_minC g p 9 = m_tb (g 9) (g 10) (m_std p - m_std (g 1)) := by simp [m_minC, c]
    have e13 : m_minC g p 13 = g 13 := by simp [m_minC, c]
    have e14 : m_minC g p 14 = g 14 := by simp [m_minC, c]
    rw [e1, e9, e13, e14]
    refine ⟨⟨P, hp, hP⟩, ⟨S, h1, h1a, h1b⟩, h3, ?_, ⟨T, h10, h10a, h10b⟩, h11, h2⟩
    have r := m_alt_rg hP (S := S) (by omega)
    rw [hp, h1]
    unfold m_tb
    split
    · exact r
    · split
      · exact r
      · exact h9
  · have e1 : m_minC g p 1 = m_near p (g 3) := by simp [m_minC, c]
    have e9 : m_minC g p 9 = g 9 := by simp [m_minC, c]
    rw [e1, e9, hp]
    exact ⟨⟨P, rfl, hP⟩, m_near_rg hP h3, h3, h9, ⟨T, h10, h10a, h10b⟩, h11, fun z => absurd z c⟩
theorem z_inv_min {g : Nat → Int32} {p : Int32} {P : Nat} (hg : z_inv g) (hp : p = nI P) (hP : 5000 ≤ P ∧ P ≤ 11000) : z_inv (m_minC g p) := ⟨z_ok_min hg.1, z_rg_min hg.2 hp hP⟩
/-! the log -/
theorem m_lf_in {f : Nat → Int32} {p : Int32} {m k : Nat} (hm : m ≤ 60) (hk : k < 60) : m_lf (nI m) f p k = if k = m_lgC m then p else if m = 60 then (if k < 59 then f (k + 1) else f k) else f k := by
  unfold m_lf m_lgC
  by_cases c : m = 60
  · subst c
    rw [if_neg (by decide), if_pos rfl, if_pos rfl]
    unfold upd m_up
    by_cases d : k = 59
    · rw [if_pos d, if_pos d]
    · rw [if_neg d, if_neg d, if_pos (by omega), if_pos (by omega)]
  · rw [if_pos (show nI m < (60 : Int32) from nI_lt (a := m) (b := 60) (by omega) (by decide)), if_neg c, if_neg c, nI_clamp (by omega)]
    rfl
theorem m_wn_lg {m : Nat} (h : m ≤ 60) : m_lgC m + 1 = m_wn m := by
  unfold m_lgC m_wn
  by_cases c : m = 60
  · subst c; rfl
  · rw [if_neg c, if_pos (by omega)]
theorem m_log_at {g : Nat → Int32} {k : Nat} (h : k < 60) : m_log g k = g (k + 15) := z_tr_lt h
/-! a minute in the station mode -/
section MINST
variable {sv g : Nat → Int32} {b : Nat} {p : Int32}
/-! .. in the moving mode -/
end MINST
/-! what stays in a trip -/
theorem m_trip_st {g : Nat → Int32} {n p : Int32} : ∀ k, m_tripC g n p k 2 = g 2 ∧ m_tripC g n p k 3 = g 3 ∧ m_tripC g n p k 10 = g 10 ∧ (g 2 = 0 → m_tripC g n p k 1 = g 1) ∧ (¬ g 2 = 0 → m_tripC g n p k 7 = g 7)
  | 0 => ⟨rfl, rfl, rfl, fun _ => rfl, fun _ => rfl⟩
  | k + 1 => by
    obtain ⟨a, b, c, d, e⟩ := m_trip_st (g := g) (n := n) (p := p) k
    rw [m_tripC]
    refine ⟨?_, ?_, ?_, fun z => ?_, fun z => ?_⟩
    · rw [← a]; simp [m_minC]
    · rw [← b]; simp [m_minC]
    · rw [← c]; simp [m_minC]
    · rw [← d z]; simp [m_minC, a, z]
    · rw [← e z]; simp [m_minC, a, z]
theorem m_hat_eq {g : Nat → Int32} {nn Pe : Nat} {n p : Int32} (hg : z_inv g) (hn : n = nI nn) (hn1 : 1 ≤ nn) (hn2 : nn ≤ 120) (hp : p = nI Pe) (hP : 5000 ≤ Pe ∧ Pe ≤ 11000) : m_std (m_tripC g n p nn 0) - m_std (m_tripC g n p nn 1) = m_hatC g p := by
  obtain ⟨k, rfl⟩ : ∃ k, nn = k + 1 := ⟨nn - 1, by omega⟩
  obtain ⟨P, e0, hP0⟩ := hg.2.1
  have eW : m_way (g 0) p (nI (k + 1)) n = p := by rw [e0, hp, hn]; exact m_way_end hP0 hP hn1 hn2
  obtain ⟨a, b, -, d, -⟩ := m_trip_st (g := g) (n := n) (p := p) k
  rw [m_tripC, eW]
  have f0 : m_minC (m_tripC g n p k) p 0 = p := by simp [m_minC]
  have f1 : m_minC (m_tripC g n p k) p 1 = if g 2 = 0 then g 1 else m_near p (g 3) := by
    by_cases z : g 2 = 0
    · rw [if_pos z, ← d z]; simp [m_minC, a, z]
    · rw [if_neg z]; simp [m_minC, a, b, z]
  rw [f0, f1, m_hatC]
theorem m_asc_eq {g : Nat → Int32} {n p : Int32} (nn : Nat) : m_tripC g n p nn 7 - g 7 = m_ascR g n p nn := by
  unfold m_ascR
  by_cases z : g 2 = 0
  · rw [if_pos z]
    have key : ∀ k, m_tripC g n p k 9 = (m_ascC g n p k).1 ∧ m_tripC g n p k 7 = (m_ascC g n p k).2.1 := by
      intro k
      induction k with
      | zero => exact ⟨rfl, rfl⟩
      | succ k ih =>
        obtain ⟨a, b, c, d, -⟩ := m_trip_st (g := g) (n := n) (p := p) k
        have d' := d z
        rw [z] at a
        rw [m_tripC, m_ascC]
        refine ⟨?_, ?_⟩
        · rw [← ih.1, ← c, ← d']; simp [m_minC, a]
        · rw [← ih.1, ← ih.2, ← c, ← d']; simp [m_minC, a]
    rw [(key nn).2]
  · rw [if_neg z, (m_trip_st nn).2.2.2.2 z, Int32.sub_self]

