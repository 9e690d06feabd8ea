set_option maxHeartbeats 4000000 in
set_option maxRecDepth 100000 in
theorem c_L_up (l : Launch) (E : zE) (x n : Int32) (hn : ¬ n = 0) : zR l yL_up wsL_up ({ frames := 0, cells := 0, slots := 0, locals := 0 }) E [.int x, .int n] [] (some (.int (a_up x n))) := by
  refine z_startr (cc := cL_up) (maxL := 2) (ret := (some .int)) (by decide) rfl (Nat.le_of_ble_eq_true rfl) ?_
  intro Pg En s Mi below meth Cd hx hb hr hts hown hlocks hml hP hK ls hl
  have hl : lv_has ls 2 [(0, .int x), (1, .int n)] := hl
  refine lv_iload_n hx hb dL_up_0 rfl (lv_at hl 0 rfl) ?_
  refine lv_ldc hx hb hown (hts (.constant RL 8 (2147483647)) (by decide +kernel)) dL_up_1 ?_
  refine lv_iand hx hb dL_up_3 ?_
  refine lv_iload_n hx hb dL_up_4 rfl (lv_at hl 1 rfl) ?_
  refine lv_irem hx hb dL_up_5 hn ?_
  refine z_topi (y := a_up x n) rfl ?_
  exact W.iret (v := a_up x n) hx hb hr z_endR (fun _ h => by cases h) dL_up_6 hlocks

theorem k_szg {x : Int32} (h : 0 ≤ x) : x = m_abs x := by
  unfold m_abs
  rw [if_neg (Int32.not_lt.mpr h)]
theorem k_szl {x : Int32} (h : ¬ 0 ≤ x) : -x = m_abs x := by
  unfold m_abs
  rw [if_pos (Int32.not_le.mp h)]

set_option maxHeartbeats 4000000 in
set_option maxRecDepth 100000 in
theorem c_L_size (l : Launch) (E : zE) (x : Int32) : zR l yL_size wsL_size ({ frames := 0, cells := 0, slots := 0, locals := 0 }) E [.int x] [] (some (.int (m_abs x))) := by
  refine z_startr (cc := cL_size) (maxL := 1) (ret := (some .int)) (by decide) rfl (Nat.le_of_ble_eq_true rfl) ?_
  intro Pg En s Mi below meth Cd hx hb hr hts hown hlocks hml hP hK ls hl
  have hl : lv_has ls 1 [(0, .int x)] := hl
  refine lv_iload_n hx hb dL_size_0 rfl (lv_at hl 0 rfl) ?_
  refine lv_if_ge (tgt := 9) hx hb dL_size_1 (by decide) (fun c_1 => ?_) (fun c_1 => ?_)
  · refine lv_iload_n hx hb dL_size_9 rfl (lv_at hl 0 rfl) ?_
    refine z_topi (y := m_abs x) (k_szg c_1) ?_
    exact W.iret (v := m_abs x) hx hb hr z_endR (fun _ h => by cases h) dL_size_10 hlocks
  · refine lv_iload_n hx hb dL_size_4 rfl (lv_at hl 0 rfl) ?_
    refine lv_ineg hx hb dL_size_5 ?_
    refine lv_goto (tgt := 10) hx hb dL_size_6 (by decide) ?_
    refine z_topi (y := m_abs x) (k_szl c_1) ?_
    exact W.iret (v := m_abs x) hx hb hr z_endR (fun _ h => by cases h) dL_size_10 hlocks

set_option maxHeartbeats 4000000 in
set_option maxRecDepth 100000 in
theorem c_L_within (l : Launch) (E : zE) (x lo hi : Int32) : zR l yL_within wsL_within ({ frames := 0, cells := 0, slots := 0, locals := 0 }) E [.int x, .int lo, .int hi] [] (some (.int (a_wi x lo hi))) := by
  refine z_startr (cc := cL_within) (maxL := 3) (ret := (some .int)) (by decide) rfl (Nat.le_of_ble_eq_true rfl) ?_
  intro Pg En s Mi below meth Cd hx hb hr hts hown hlocks hml hP hK ls hl
  have hl : lv_has ls 3 [(0, .int x), (1, .int lo), (2, .int hi)] := hl
  refine lv_iload_n hx hb dL_within_0 rfl (lv_at hl 0 rfl) ?_
  refine lv_iload_n hx hb dL_within_1 rfl (lv_at hl 1 rfl) ?_
  refine lv_icmp_ge (tgt := 9) hx hb dL_within_2 (by decide) (fun c_2 => ?_) (fun c_2 => ?_)
  · refine lv_iload_n hx hb dL_within_9 rfl (lv_at hl 0 rfl) ?_
    refine lv_iload_n hx hb dL_within_10 rfl (lv_at hl 2 rfl) ?_
    refine lv_icmp_le (tgt := 18) hx hb dL_within_11 (by decide) (fun c_11 => ?_) (fun c_11 => ?_)
    · refine lv_iload_n hx hb dL_within_18 rfl (lv_at hl 0 rfl) ?_
      refine z_topi (y := a_wi x lo hi) (by rw [a_wi, if_neg (Int32.not_lt.mpr c_2), if_neg (Int32.not_lt.mpr c_11)]) ?_
      exact W.iret (v := a_wi x lo hi) hx hb hr z_endR (fun _ h => by cases h) dL_within_19 hlocks
    · refine lv_iload_n hx hb dL_within_14 rfl (lv_at hl 2 rfl) ?_
      refine lv_goto (tgt := 19) hx hb dL_within_15 (by decide) ?_
      refine z_topi (y := a_wi x lo hi) (by rw [a_wi, if_neg (Int32.not_lt.mpr c_2), if_pos (Int32.not_le.mp c_11)]) ?_
      exact W.iret (v := a_wi x lo hi) hx hb hr z_endR (fun _ h => by cases h) dL_within_19 hlocks
  · refine lv_iload_n hx hb dL_within_5 rfl (lv_at hl 1 rfl) ?_
    refine lv_goto (tgt := 19) hx hb dL_within_6 (by decide) ?_
    refine z_topi (y := a_wi x lo hi) (by rw [a_wi, if_pos (Int32.not_le.mp c_2)]) ?_
    exact W.iret (v := a_wi x lo hi) hx hb hr z_endR (fun _ h => by cases h) dL_within_19 hlocks

def a_ce (L : Nat) (xs : Nat → Int32) (k : Nat) : Int32 := if k < L then xs k else 1812433253 * (nI k + 251)

set_option maxHeartbeats 4000000 in
set_option maxRecDepth 100000 in
theorem c_L_cell (l : Launch) {b L k : Nat} {xs : Nat → Int32} (hL : L ≤ 260) (hk : k < 2 ^ 20) : zRs l yL_cell wsL_cell ({ frames := 0, cells := 0, slots := 0, locals := 0 }) b L xs [.ref b, .int (nI k)] (some (.int (a_ce L xs k))) := by
  refine z_startrs (cc := cL_cell) (maxL := 2) (ret := (some .int)) (by decide) rfl (Nat.le_of_ble_eq_true rfl) ?_
  intro Pg En s Mi below meth Cd hx hb hr hts hown hlocks hml hX hbl ls hl
  have hl : lv_has ls 2 [(0, .ref b), (1, .int (nI k))] := hl
  have hS : va_S (fun q : Nat => s.heap.size ≤ q) s.heap s.heap [] := va_S.rf
  refine lv_iload_n hx hb dL_cell_0 rfl (lv_at hl 1 rfl) ?_
  refine lv_aload_n hx hb dL_cell_1 rfl (lv_at hl 0 rfl) ?_
  refine va_slen hx hb hX hbl (Nat.not_le.mpr hbl) hS dL_cell_2 ?_
  refine lv_icmp_ge (tgt := 12) hx hb dL_cell_3 (by decide) (fun c_3 => ?_) (fun c_3 => ?_)
  · refine lv_ldc hx hb hown (hts (.constant RL 7 (1812433253)) (by decide +kernel)) dL_cell_12 ?_
    refine lv_iload_n hx hb dL_cell_14 rfl (lv_at hl 1 rfl) ?_
    refine lv_sipush (v := 251) hx hb dL_cell_15 (by decide) ?_
    refine lv_iadd hx hb dL_cell_18 ?_
    refine lv_imul hx hb dL_cell_19 ?_
    refine z_topi (y := a_ce L xs k) (by rw [a_ce, if_neg (Nat.not_lt.mpr (nI_len (by omega) (by omega) c_3))]) ?_
    exact W.iret (v := a_ce L xs k) hx hb hr z_endR (fun _ h => by cases h) dL_cell_20 hlocks
  · refine lv_aload_n hx hb dL_cell_6 rfl (lv_at hl 0 rfl) ?_
    refine lv_iload_n hx hb dL_cell_7 rfl (lv_at hl 1 rfl) ?_
    have hkL : k < L := Nat.lt_of_not_le (fun z => c_3 (nI_le z (by omega)))
    refine z_sld (k := k) hx hb hX hbl (Nat.not_le.mpr hbl) hS rfl hkL (by omega) rfl dL_cell_8 ?_
    refine lv_goto (tgt := 20) hx hb dL_cell_9 (by decide) ?_
    refine z_topi (y := a_ce L xs k) (by rw [a_ce, if_pos hkL]) ?_
    exact W.iret (v := a_ce L xs k) hx hb hr z_endR (fun _ h => by cases h) dL_cell_20 hlocks
