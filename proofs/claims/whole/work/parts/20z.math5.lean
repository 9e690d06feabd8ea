/-! the watch: what a part of a trip text does, and the hash -/
def m_exC (g : Nat → Int32) (pt mi nu : Int32) : Nat → Int32 :=
  if pt = 4 then m_swC g (if g 2 = 0 then 1 else 0) else if pt = 5 then m_mkC g else if pt = 2 then m_tripC g mi nu (m_n mi) else if pt = 3 then m_calC g nu else g
/-- the state when i characters are behind -/
def m_goC (g : Nat → Int32) (tx : Nat → Int32) : Nat → Nat → Int32
  | 0 => g
  | i + 1 => if tx i = 59 then m_exC (m_goC g tx i) (m_run tx i).1 (m_run tx i).2.1 (m_run tx i).2.2 else m_goC g tx i
def m_endC (g : Nat → Int32) (tx : Nat → Int32) (n : Nat) : Nat → Int32 := m_exC (m_goC g tx n) (m_run tx n).1 (m_run tx n).2.1 (m_run tx n).2.2
def m_whole (tx : Nat → Int32) (n : Nat) : Prop := m_fe tx n = n ∧ ¬ m_pw (m_run tx n).1 (m_run tx n).2.2 = 0
theorem z_ok_sw {g : Nat → Int32} {on : Int32} (hg : z_ok g) (hon : on = 0 ∨ on = 1) : z_ok (m_swC g on) := by
  by_cases h : g 2 = on
  · have e : m_swC g on = g := by funext i; rw [m_swC, if_pos h]
    rw [e]; exact hg
  · obtain ⟨h1, h2, h3, h4⟩ := hg
    have a2 : m_swC g on 2 = on := by simp [m_swC, h]
    have a14 : m_swC g on 14 = nI 0 := by simp [m_swC, h]; rfl
    have a13 : m_swC g on 13 = 0 := by simp [m_swC, h]
    have a75 : m_swC g on 75 = g 75 := by simp [m_swC, h]
    refine ⟨?_, ?_, ?_, ?_⟩
    · rw [a14, m_n_nI (by decide)]; exact ⟨rfl, by decide⟩
    · rw [a75]; exact h2
    · rw [a2]; exact hon
    · rw [a13]; exact Or.inl rfl
theorem m_kn_nI {n : Nat} (h : n ≤ 10) : m_kn (nI n) = nI (if n < 10 then n + 1 else 10) := by
  unfold m_kn
  by_cases q : n < 10
  · have c : nI n < 10 := nI_lt (a := n) (b := 10) q (by decide)
    rw [if_pos c, if_pos q]; exact nI_1 n
  · have c : ¬ nI n < 10 := nI_nlt (a := n) (b := 10) (by omega) (by omega)
    rw [if_neg c, if_neg q]; rfl
theorem z_ok_mk {g : Nat → Int32} (hg : z_ok g) : z_ok (m_mkC g) := by
  obtain ⟨h1, h2, h3, h4⟩ := hg
  have a2 : m_mkC g 2 = g 2 := by simp [m_mkC]
  have a14 : m_mkC g 14 = g 14 := by simp [m_mkC]
  have a13 : m_mkC g 13 = g 13 := by simp [m_mkC]
  have a75 : m_mkC g 75 = m_kn (g 75) := by simp [m_mkC]
  refine ⟨by rw [a14]; exact h1, ?_, by rw [a2]; exact h3, by rw [a13]; exact h4⟩
  rw [a75, h2.1, m_kn_nI h2.2, m_n_nI (by split <;> omega)]
  exact ⟨rfl, by split <;> omega⟩
theorem z_ok_cal {g : Nat → Int32} {a : Int32} (hg : z_ok g) : z_ok (m_calC g a) := by
  have a2 : m_calC g a 2 = g 2 := by simp [m_calC, m_seaC]
  have a14 : m_calC g a 14 = g 14 := by simp [m_calC, m_seaC]
  have a13 : m_calC g a 13 = g 13 := by simp [m_calC, m_seaC]
  have a75 : m_calC g a 75 = g 75 := by simp [m_calC, m_seaC]
  unfold z_ok
  rw [a2, a14, a13, a75]; exact hg
theorem z_ok_sea {g : Nat → Int32} {a : Int32} (hg : z_ok g) : z_ok (m_seaC g a) := by
  have a2 : m_seaC g a 2 = g 2 := by simp [m_seaC]
  have a14 : m_seaC g a 14 = g 14 := by simp [m_seaC]
  have a13 : m_seaC g a 13 = g 13 := by simp [m_seaC]
  have a75 : m_seaC g a 75 = g 75 := by simp [m_seaC]
  unfold z_ok
  rw [a2, a14, a13, a75]; exact hg
theorem m_on01 (g : Nat → Int32) : (if g 2 = 0 then (1 : Int32) else 0) = 0 ∨ (if g 2 = 0 then (1 : Int32) else 0) = 1 := by
  split
  · exact Or.inr rfl
  · exact Or.inl rfl
theorem z_ok_ex {g : Nat → Int32} {pt mi nu : Int32} (hg : z_ok g) : z_ok (m_exC g pt mi nu) := by
  unfold m_exC
  split
  · exact z_ok_sw hg (m_on01 g)
  · split
    · exact z_ok_mk hg
    · split
      · exact z_ok_trip hg _
      · split
        · exact z_ok_cal hg
        · exact hg
theorem z_ok_go {g tx : Nat → Int32} (hg : z_ok g) : ∀ i, z_ok (m_goC g tx i)
  | 0 => hg
  | i + 1 => by
    unfold m_goC
    split
    · exact z_ok_ex (z_ok_go hg i)
    · exact z_ok_go hg i
/-- trips have their minutes -/
def m_mj (r : m_R) : Prop := (r.1 = 0 → r.2.2 = -1) ∧ (r.1 = 2 → r.2.1 = nI (m_n r.2.1) ∧ m_n r.2.1 ≤ 120) ∧ (r.1 = 1 → r.2.2 = nI (m_n r.2.2) ∧ m_n r.2.2 ≤ 120)
theorem k_dig {c : Int32} (h1 : ¬ c < 48) (h2 : ¬ 57 < c) : ∃ d : Nat, d ≤ 9 ∧ c = nI (d + 48) := by
  have h0 : ¬ c < 0 := fun h9 => h1 (Int32.lt_trans h9 (by decide))
  obtain ⟨j, hj, rfl⟩ := nI_of h0
  have a := nI_nltn (a := j) (b := 48) (by omega) (by decide) h1
  have b := nI_nltn (a := 57) (b := j) (by decide) (by omega) h2
  exact ⟨j - 48, by omega, by rw [show j - 48 + 48 = j by omega]⟩
theorem k_lon {nu c : Int32} {n d : Nat} (hn : m_max0 nu = nI n) (hc : c = nI (d + 48)) : m_lon nu c = nI (n * 10 + d) := by
  have e1 : m_max0 nu * 10 + c = nI (n * 10 + (d + 48)) := z_addI (z_mulI hn (rfl : (10 : Int32) = nI 10)) hc
  have e := z_subI (a := n * 10 + (d + 48)) (b := 48) e1 (rfl : (48 : Int32) = nI 48) (by omega)
  rw [show n * 10 + (d + 48) - 48 = n * 10 + d by omega] at e
  exact e
theorem k_rdn {nu c : Int32} (hnu : nu = -1 ∨ (nu = nI (m_n nu) ∧ m_n nu ≤ 120)) (h : ¬ m_rdo nu c 1 120 = 0) : m_rdn nu c 1 120 = nI (m_n (m_rdn nu c 1 120)) ∧ m_n (m_rdn nu c 1 120) ≤ 120 := by
  have e : m_rdn nu c 1 120 = m_lon nu c := by rw [m_rdn, if_neg h]
  rw [e]
  unfold m_rdo at h
  split at h
  · exact absurd rfl h
  · rename_i h1
    split at h
    · exact absurd rfl h
    · rename_i h2
      split at h
      · exact absurd rfl h
      · obtain ⟨d, hd, hc⟩ := k_dig h1 h2
        obtain ⟨n, hn, hm⟩ : ∃ n : Nat, n ≤ 120 ∧ m_max0 nu = nI n := by
          rcases hnu with q | q
          · exact ⟨0, by decide, by rw [q]; rfl⟩
          · exact ⟨m_n nu, q.2, by rw [q.1, m_n_nI (by omega), m_max0, if_neg (nI_pos (by omega))]⟩
        rw [k_lon hm hc] at h ⊢
        rw [m_n_nI (by omega)]
        refine ⟨rfl, ?_⟩
        unfold m_cg at h
        split at h
        · exact absurd (if_neg (by decide)) h
        · unfold m_cgl at h
          split at h
          · rename_i q
            exact nI_len (b := 120) (by omega) (by decide) q
          · exact absurd rfl h
theorem m_mj_rs {r : m_R} {c : Int32} (h : m_mj r) : m_mj (m_rs r c) := by
  obtain ⟨pt, mi, nu⟩ := r
  obtain ⟨h0, h2, h1⟩ := h
  dsimp only at h0 h1 h2
  unfold m_mj m_rs m_rsp m_rsm m_rsn
  dsimp only
  by_cases c1 : c = 59
  · simp only [if_pos c1]
    by_cases q : m_pw pt nu = 0
    · simp only [if_pos q]; exact ⟨h0, h2, h1⟩
    · simp only [if_neg q]
      exact ⟨fun _ => trivial, fun h9 => absurd h9 (by decide), fun h9 => absurd h9 (by decide)⟩
  · simp only [if_neg c1]
    by_cases p0 : pt = 0
    · have n1 : ¬ pt = 1 := by rw [p0]; decide
      simp only [if_pos p0, if_neg n1]
      by_cases k1 : c = 99
      · simp only [if_pos k1]
        exact ⟨fun h9 => absurd h9 (by decide), fun h9 => absurd h9 (by decide), fun h9 => absurd h9 (by decide)⟩
      · by_cases k2 : c = 109
        · simp only [if_neg k1, if_pos k2]
          exact ⟨fun h9 => absurd h9 (by decide), fun h9 => absurd h9 (by decide), fun h9 => absurd h9 (by decide)⟩
        · by_cases k3 : c = 115
          · simp only [if_neg k1, if_neg k2, if_pos k3]
            exact ⟨fun h9 => absurd h9 (by decide), fun h9 => absurd h9 (by decide), fun h9 => absurd h9 (by decide)⟩
          · simp only [if_neg k1, if_neg k2, if_neg k3]
            by_cases q : m_rdo nu c 1 120 = 0
            · simp only [if_pos q, m_rdn_fail q]
              exact ⟨h0, h2, fun h9 => absurd h9 n1⟩
            · simp only [if_neg q]
              exact ⟨fun h9 => absurd h9 (by decide), fun h9 => absurd h9 (by decide), fun _ => k_rdn (Or.inl (h0 p0)) q⟩
    · simp only [if_neg p0]
      by_cases p1 : pt = 1
      · simp only [if_pos p1]
        by_cases k1 : c = 62
        · simp only [if_pos k1]
          exact ⟨fun h9 => absurd h9 (by decide), fun _ => h1 p1, fun h9 => absurd h9 (by decide)⟩
        · simp only [if_neg k1]
          refine ⟨fun h9 => absurd h9 p0, fun h9 => absurd (p1.symm.trans h9) (by decide), fun _ => ?_⟩
          by_cases q : m_rdo nu c 1 120 = 0
          · rw [m_rdn_fail q]; exact h1 p1
          · exact k_rdn (Or.inr (h1 p1)) q
      · simp only [if_neg p1]
        exact ⟨fun h9 => absurd h9 p0, h2, fun h9 => absurd h9 p1⟩
theorem m_mj_run (tx : Nat → Int32) : ∀ k, m_mj (m_run tx k)
  | 0 => ⟨fun _ => rfl, fun h9 => absurd (show (0 : Int32) = 2 from h9) (by decide), fun h9 => absurd (show (0 : Int32) = 1 from h9) (by decide)⟩
  | k + 1 => m_mj_rs (m_mj_run tx k)
def m_mix (h : Int64) (x : Int32) : Int64 := 31 * h + x.toInt64
def m_hr (g : Nat → Int32) (h : Int64) : Int64 :=
  m_mix (m_mix (m_mix (m_mix (m_mix (m_mix (m_mix (m_mix (m_mix (m_mix (m_mix (m_mix (m_mix (m_mix h (g 2)) (g 0)) (m_std (g 0) - m_std (g 1))) (g 4)) (g 1)) (g 5)) (g 6)) (g 7)) (g 8)) (g 9)) (g 14)) (m_fall (m_n (g 14)) (m_log g))) (g 12)) (m_al (m_n (g 14)) (m_log g) (g 11))
def m_hm (g : Nat → Int32) (h : Int64) : Nat → Int64
  | 0 => m_mix h (g 75)
  | i + 1 => m_mix (m_mix (m_mix (m_hm g h i) (g (4 * i + 76))) (g (4 * i + 77))) (g (4 * i + 78) - g 78)
def m_dg (g : Nat → Int32) : Int64 := m_mix (m_mix (m_hm g (m_hr g 4369) (m_n (g 75))) (m_down (1000 + m_std (g 1)) 5000 6001)) (m_muC g 5)
theorem m_el_tr {n i : Nat} {f : Nat → Int32} {x : Int32} (hx : x = nI i) (hi : i < n) (hn : n < 2 ^ 31) : m_el n (z_tr n f) x = f i := by
  rw [hx, m_el_in hi hn, z_tr_lt hi]
