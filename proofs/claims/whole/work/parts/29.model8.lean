/-! the reference reads a text: i is the place, n the length -/
def m_sgM (tx : Nat → Int32) (n i : Nat) : Int32 := if i < n then tx i else 0
def m_tkM (tx : Nat → Int32) (n i : Nat) (x : Int32) : Int32 := if m_sgM tx n i = x then 1 else 0
theorem m_tkM01 (tx : Nat → Int32) (n i : Nat) (x : Int32) : m_tkM tx n i x = 0 ∨ m_tkM tx n i x = 1 := by
  unfold m_tkM
  split
  · exact Or.inr rfl
  · exact Or.inl rfl
def m_tkN (tx : Nat → Int32) (n i : Nat) (x : Int32) : Nat := if m_sgM tx n i = x then i + 1 else i

set_option maxHeartbeats 4000000 in
set_option maxRecDepth 100000 in
theorem c_X10_sign (l : Launch) (E : zE) (h0 k1 k2 k3 : Nat) (th sd ln at0 pt mi nu : Int32) (ha : Int64) (tx : Nat → Int32) (n i : Nat) (hln : ln = nI n) (hn : n ≤ 60) (hat : at0 = nI i) (hi : i ≤ n) : zR l yX10_sign wsX10_sign ({ frames := 0, cells := 0, slots := 0, locals := 0 }) E [.ref h0] ([[(h0, .inr (9, [.int th, .ref k1, .int sd, .ref k2, .ref k3, .int ln, .int at0, .int pt, .int mi, .int nu, .long ha]))], [(k3, .inl (E.2 0, 60, .inl tx))]] : List va_W).flatten (some (.int (m_sgM tx n i))) := by
  refine z_startr (cc := cX10_sign) (maxL := 1) (ret := (some .int)) (by decide) rfl (Nat.le_of_ble_eq_true rfl) ?_
  intro Pg En s Mi below meth Cd hx hb hr hts hown hlocks hml hP hK ls hl
  have hl : lv_has ls 1 [(0, .ref h0)] := hl
  have hi_X10 : ∀ w ∈ wsX100, w ∈ wsX10_sign := by decide +kernel
  refine lv_aload_n hx hb dX10_sign_0 rfl (lv_at hl 0 rfl) ?_
  refine va_get (D := E.1) (ci := 9) (v := .int at0) (C := RX10) (T := TX10) (N := 11) hx hb hts hi_X10 hown hK.1 hP 0 rfl rfl 6 (by decide) (hts (.fieldLink RX10 115 "AltimeterWatchModel" "at" "I") (by decide +kernel)) (fun _ h9 => h9) rfl dX10_sign_1 ?_
  refine lv_aload_n hx hb dX10_sign_4 rfl (lv_at hl 0 rfl) ?_
  refine va_get (D := E.1) (ci := 9) (v := .int ln) (C := RX10) (T := TX10) (N := 11) hx hb hts hi_X10 hown hK.1 hP 0 rfl rfl 5 (by decide) (hts (.fieldLink RX10 112 "AltimeterWatchModel" "length" "I") (by decide +kernel)) (fun _ h9 => h9) rfl dX10_sign_5 ?_
  refine lv_icmp_ge (tgt := 23) hx hb dX10_sign_8 (by decide) (fun c_8 => ?_) (fun c_8 => ?_)
  · refine lv_iconst (v := 0) hx hb dX10_sign_23 (by decide) ?_
    refine z_topi (y := m_sgM tx n i) (by rw [m_sgM, if_neg (by have := nI_len (a := n) (b := i) (by omega) (by omega) (by rw [← hat, ← hln]; exact c_8); omega)]) ?_
    exact W.iret (v := m_sgM tx n i) hx hb hr z_endR (fun _ h => by cases h) dX10_sign_24 hlocks
  · have hlt : i < n := nI_nlen (by omega) (by omega) (by rw [← hat, ← hln]; exact c_8)
    refine lv_aload_n hx hb dX10_sign_11 rfl (lv_at hl 0 rfl) ?_
    refine va_get (D := E.1) (ci := 9) (v := .ref k3) (C := RX10) (T := TX10) (N := 11) hx hb hts hi_X10 hown hK.1 hP 0 rfl rfl 4 (by decide) (hts (.fieldLink RX10 17 "AltimeterWatchModel" "text" "[I") (by decide +kernel)) (fun _ h9 => h9) rfl dX10_sign_12 ?_
    refine lv_aload_n hx hb dX10_sign_15 rfl (lv_at hl 0 rfl) ?_
    refine va_get (D := E.1) (ci := 9) (v := .int at0) (C := RX10) (T := TX10) (N := 11) hx hb hts hi_X10 hown hK.1 hP 0 rfl rfl 6 (by decide) (hts (.fieldLink RX10 115 "AltimeterWatchModel" "at" "I") (by decide +kernel)) (fun _ h9 => h9) rfl dX10_sign_16 ?_
    refine z_iald (k := i) hx hb hK.1 hP 1 rfl hat (by omega) (by decide) dX10_sign_19 ?_
    refine lv_goto (tgt := 24) hx hb dX10_sign_20 (by decide) ?_
    refine z_topi (y := m_sgM tx n i) (by rw [m_sgM, if_pos hlt]) ?_
    exact W.iret (v := m_sgM tx n i) hx hb hr z_endR (fun _ h => by cases h) dX10_sign_24 hlocks
