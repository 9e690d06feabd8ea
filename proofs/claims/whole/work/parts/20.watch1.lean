set_option maxHeartbeats 4000000 in
set_option maxRecDepth 100000 in
theorem c_X9_refuseOutside (l : Launch) (E : zE) (sa : Nat → Nat) (hl0 : l.stackTraces = false) (p0 p1 p2 : Int32) : zME l yX9_refuseOutside wsX9_refuseOutside ({ frames := 6, cells := 1, slots := 6, locals := 90 }) E sa [.int p0, .int p1, .int p2] ([] : List va_W).flatten (p1 ≤ p0 ∧ p0 ≤ p2) none ([] : List va_W).flatten (fun Ex => Ex = zIA ∧ ¬ (p1 ≤ p0 ∧ p0 ≤ p2)) 1 6 := by
  refine z_starte (cc := cX9_refuseOutside) (maxL := 3) (ret := none) (by decide) rfl (Nat.le_of_ble_eq_true rfl) ?_
  intro Pg En s Mi below meth Cd A hx hb hr hts hown hlocks hml hnt hA hT hZ H hH hP hK hD hS ls hl
  have hl : lv_has ls 3 [(0, .int p0), (1, .int p1), (2, .int p2)] := hl
  refine lv_iload_n hx hb dX9_refuseOutside_0 rfl (lv_at hl 0 rfl) ?_
  refine lv_iload_n hx hb dX9_refuseOutside_1 rfl (lv_at hl 1 rfl) ?_
  refine lv_icmp_lt (tgt := 10) hx hb dX9_refuseOutside_2 (by decide) (fun c_2 => ?_) (fun c_2 => ?_)
  · refine z_throw (own := RX9) (cls := zIA) (names := zUp) (ik := 194) (is := 245) (ic := 198) hx hb hl0 hown (by decide) (by decide) (hts (.classLink RX9 194 zIA) (by decide +kernel)) (hts (.initialized zIA) (by decide +kernel)) hT.2.2.2.2.2.2.2.2.2.2.1 (hT.hA hts (by decide +kernel)) (by decide +kernel) hZ hP hD hS (by rw [hml]; exact hl.1) hnt dX9_refuseOutside_10 dX9_refuseOutside_13 dX9_refuseOutside_14 dX9_refuseOutside_16 dX9_refuseOutside_19 (by decide) (Nat.le_of_ble_eq_true rfl) (Nat.le_of_ble_eq_true rfl) (Nat.le_of_ble_eq_true rfl) hlocks ⟨rfl, fun h9 => absurd h9.1 (Int32.not_le.mpr c_2)⟩ rfl (by decide) (by decide)
  · refine lv_iload_n hx hb dX9_refuseOutside_5 rfl (lv_at hl 0 rfl) ?_
    refine lv_iload_n hx hb dX9_refuseOutside_6 rfl (lv_at hl 2 rfl) ?_
    refine lv_icmp_le (tgt := 20) hx hb dX9_refuseOutside_7 (by decide) (fun c_7 => ?_) (fun c_7 => ?_)
    · refine W.widen (k := 1) (n := 6) (by decide) (by decide) ?_
      refine vx_ret ?_
      exact W.vret hx hb hr (z_ende ⟨Int32.not_lt.mp c_2, c_7⟩ hP hD hS rfl) hS.2.2 dX9_refuseOutside_20 hlocks
    · refine z_throw (own := RX9) (cls := zIA) (names := zUp) (ik := 194) (is := 245) (ic := 198) hx hb hl0 hown (by decide) (by decide) (hts (.classLink RX9 194 zIA) (by decide +kernel)) (hts (.initialized zIA) (by decide +kernel)) hT.2.2.2.2.2.2.2.2.2.2.1 (hT.hA hts (by decide +kernel)) (by decide +kernel) hZ hP hD hS (by rw [hml]; exact hl.1) hnt dX9_refuseOutside_10 dX9_refuseOutside_13 dX9_refuseOutside_14 dX9_refuseOutside_16 dX9_refuseOutside_19 (by decide) (Nat.le_of_ble_eq_true rfl) (Nat.le_of_ble_eq_true rfl) (Nat.le_of_ble_eq_true rfl) hlocks ⟨rfl, fun h9 => c_7 h9.2⟩ rfl (by decide) (by decide)
