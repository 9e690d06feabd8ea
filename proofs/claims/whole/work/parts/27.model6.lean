set_option maxHeartbeats 4000000 in
set_option maxRecDepth 100000 in
theorem c_X10_minutesToAlarm_n (l : Launch) (E : zE) (h0 k1 k2 k3 : Nat) (th sd ln at0 pt mi nu : Int32) (ha : Int64) (sv : Nat → Int32) (x : Int32) (hok : m_in x 1 20 = 0) : zM l yX10_minutesToAlarm wsX10_minutesToAlarm ({ frames := 1, cells := 0, slots := 0, locals := 22 }) E [.ref h0, .int x] ([[(h0, .inr (9, [.int th, .ref k1, .int sd, .ref k2, .ref k3, .int ln, .int at0, .int pt, .int mi, .int nu, .long ha]))], [(k1, .inl (E.2 0, 1160, .inl sv))]] : List va_W).flatten (some (.int 0)) ([[(h0, .inr (9, [.int 1, .ref k1, .int sd, .ref k2, .ref k3, .int ln, .int at0, .int pt, .int mi, .int nu, .long ha]))], [(k1, .inl (E.2 0, 1160, .inl sv))]] : List va_W).flatten 0 0 := by
  refine z_start (cc := cX10_minutesToAlarm) (maxL := 2) (ret := (some .int)) (by decide) rfl (Nat.le_of_ble_eq_true rfl) ?_
  intro Pg En s Mi below meth Cd A hx hb hr hts hown hlocks hin hml hA H hH hP hK hD hS ls hl
  have hl : lv_has ls 2 [(0, .ref h0), (1, .int x)] := hl
  refine lv_aload_n hx hb dX10_minutesToAlarm_0 rfl (lv_at hl 0 rfl) ?_
  refine lv_iload_n hx hb dX10_minutesToAlarm_1 rfl (lv_at hl 1 rfl) ?_
  refine lv_iconst (v := 1) hx hb dX10_minutesToAlarm_2 (by decide) ?_
  refine lv_bipush (v := 20) hx hb dX10_minutesToAlarm_3 (by decide) ?_
  refine z_rdv (va_runS (As := [.int x, .int 1, .int 20]) (rest := [.ref h0]) ⟨hx, hb, hml, hown, hts⟩ (c_X10_in l E x 1 20) (va_cwS 3 hts gX10_minutesToAlarm_X10_in rfl rfl rfl (by decide +kernel) ⟨Nat.le_of_ble_eq_true rfl, Nat.le_of_ble_eq_true rfl⟩) ⟨zPr.blind, z_prer hK zP_nil⟩ rfl rfl hl.1 rfl (lv_room (Nat.le_of_ble_eq_true rfl)) dX10_minutesToAlarm_5 ⟨Nat.le_of_ble_eq_true rfl, Nat.le_of_ble_eq_true rfl⟩) ?_
  refine W.eq (g2 := F0 Mi 8 ls [.int (m_in x 1 20), .ref h0]) rfl ?_
  refine lv_if_eq (tgt := 15) hx hb dX10_minutesToAlarm_8 (by decide) (fun _ => ?_) (fun h9 => absurd (hok) h9)
  refine lv_iconst (v := 1) hx hb dX10_minutesToAlarm_15 (by decide) ?_
  have hPc : va_P E.1 vwCl ([[(h0, .inr (9, [.int th, .ref k1, .int sd, .ref k2, .ref k3, .int ln, .int at0, .int pt, .int mi, .int nu, .long ha]))]] : List va_W).flatten H := zf_sub hP [0] rfl
  have hDc : va_D A ([[(h0, .inr (9, [.int th, .ref k1, .int sd, .ref k2, .ref k3, .int ln, .int at0, .int pt, .int mi, .int nu, .long ha]))]] : List va_W).flatten := zf_subD hD [0] (by decide) rfl
  refine z_mut (Sc := [[(h0, .inr (9, [.int th, .ref k1, .int sd, .ref k2, .ref k3, .int ln, .int at0, .int pt, .int mi, .int nu, .long ha]))]]) (Sr := [[(k1, .inl (E.2 0, 1160, .inl sv))]]) (W1 := [[(h0, .inr (9, [.int 1, .ref k1, .int sd, .ref k2, .ref k3, .int ln, .int at0, .int pt, .int mi, .int nu, .long ha]))]]) (va_runV (As := [.int 1]) (rest := []) ⟨hx, hb, hml, hown, hts⟩ (c_X10_holds l E h0 k1 k2 k3 th sd ln at0 pt mi nu ha 1 H.size) (cwV 1 hts gX10_minutesToAlarm_X10_holds rfl rfl rfl (by decide +kernel) ⟨Nat.le_of_ble_eq_true rfl, Nat.le_of_ble_eq_true rfl⟩) ⟨zP.blind, va_recv hK.1 hPc (ci := 9) (q0 := 0) rfl rfl, z_pre hK hPc hDc⟩ rfl rfl hl.1 rfl (lv_room (Nat.le_of_ble_eq_true rfl)) dX10_minutesToAlarm_16 ⟨Nat.le_of_ble_eq_true rfl, Nat.le_of_ble_eq_true rfl⟩) hP hD hS hA [0] [1] rfl rfl (by decide) (by decide) (fun H locs hP hD hS => ?_)
  have hP : va_P E.1 vwCl ([[(k1, .inl (E.2 0, 1160, .inl sv))], [(h0, .inr (9, [.int 1, .ref k1, .int sd, .ref k2, .ref k3, .int ln, .int at0, .int pt, .int mi, .int nu, .long ha]))]] : List va_W).flatten H := hP
  have hD : va_D A ([[(k1, .inl (E.2 0, 1160, .inl sv))], [(h0, .inr (9, [.int 1, .ref k1, .int sd, .ref k2, .ref k3, .int ln, .int at0, .int pt, .int mi, .int nu, .long ha]))]] : List va_W).flatten := hD
  refine W.eq (g2 := F0 Mi 19 ls [.int (m_z01 1)]) rfl ?_
  refine lv_if_eq (tgt := 30) hx hb dX10_minutesToAlarm_19 (by decide) (fun _ => ?_) (fun h9 => absurd ((by decide)) h9)
  refine lv_iconst (v := 0) hx hb dX10_minutesToAlarm_30 (by decide) ?_
  have hP : va_P E.1 vwCl ([[(h0, .inr (9, [.int 1, .ref k1, .int sd, .ref k2, .ref k3, .int ln, .int at0, .int pt, .int mi, .int nu, .long ha]))], [(k1, .inl (E.2 0, 1160, .inl sv))]] : List va_W).flatten H := zf_sub hP [1, 0] rfl
  have hD : va_D A ([[(h0, .inr (9, [.int 1, .ref k1, .int sd, .ref k2, .ref k3, .int ln, .int at0, .int pt, .int mi, .int nu, .long ha]))], [(k1, .inl (E.2 0, 1160, .inl sv))]] : List va_W).flatten := zf_subD hD [1, 0] (by decide) rfl
  exact W.iret (v := 0) hx hb hr (z_end hP hD hS rfl) hS.2.2 dX10_minutesToAlarm_31 hlocks

set_option maxHeartbeats 4000000 in
set_option maxRecDepth 100000 in
theorem c_X10_minutesToAlarm_y (l : Launch) (E : zE) (h0 k1 k2 k3 : Nat) (th sd ln at0 pt mi nu : Int32) (ha : Int64) (sv : Nat → Int32) (x : Int32) (m : Nat) (hm : sv 14 = nI m) (hm6 : m ≤ 60) (pe pq : Nat) (hpe : x = nI pe) (hpe1 : 1 ≤ pe) (hpe2 : pe ≤ 20) (hp0 : sv 0 = nI pq) (hp1 : 5000 ≤ pq) (hp2 : pq ≤ 11000) (hok : m_in x 1 20 = 1) : zM l yX10_minutesToAlarm wsX10_minutesToAlarm ({ frames := 3, cells := 0, slots := 0, locals := 67 }) E [.ref h0, .int x] ([[(h0, .inr (9, [.int th, .ref k1, .int sd, .ref k2, .ref k3, .int ln, .int at0, .int pt, .int mi, .int nu, .long ha]))], [(k1, .inl (E.2 0, 1160, .inl sv))]] : List va_W).flatten (some (.int (m_uaV sv m x))) ([[(h0, .inr (9, [.int 0, .ref k1, .int sd, .ref k2, .ref k3, .int ln, .int at0, .int pt, .int mi, .int nu, .long ha]))], [(k1, .inl (E.2 0, 1160, .inl (m_uaW sv m x)))]] : List va_W).flatten 0 0 := by
  refine z_start (cc := cX10_minutesToAlarm) (maxL := 2) (ret := (some .int)) (by decide) rfl (Nat.le_of_ble_eq_true rfl) ?_
  intro Pg En s Mi below meth Cd A hx hb hr hts hown hlocks hin hml hA H hH hP hK hD hS ls hl
  have hl : lv_has ls 2 [(0, .ref h0), (1, .int x)] := hl
  refine lv_aload_n hx hb dX10_minutesToAlarm_0 rfl (lv_at hl 0 rfl) ?_
  refine lv_iload_n hx hb dX10_minutesToAlarm_1 rfl (lv_at hl 1 rfl) ?_
  refine lv_iconst (v := 1) hx hb dX10_minutesToAlarm_2 (by decide) ?_
  refine lv_bipush (v := 20) hx hb dX10_minutesToAlarm_3 (by decide) ?_
  refine z_rdv (va_runS (As := [.int x, .int 1, .int 20]) (rest := [.ref h0]) ⟨hx, hb, hml, hown, hts⟩ (c_X10_in l E x 1 20) (va_cwS 3 hts gX10_minutesToAlarm_X10_in rfl rfl rfl (by decide +kernel) ⟨Nat.le_of_ble_eq_true rfl, Nat.le_of_ble_eq_true rfl⟩) ⟨zPr.blind, z_prer hK zP_nil⟩ rfl rfl hl.1 rfl (lv_room (Nat.le_of_ble_eq_true rfl)) dX10_minutesToAlarm_5 ⟨Nat.le_of_ble_eq_true rfl, Nat.le_of_ble_eq_true rfl⟩) ?_
  refine W.eq (g2 := F0 Mi 8 ls [.int (m_in x 1 20), .ref h0]) rfl ?_
  refine lv_if_eq (tgt := 15) hx hb dX10_minutesToAlarm_8 (by decide) (fun h9 => absurd h9 ((by rw [hok]; decide))) (fun _ => ?_)
  refine lv_iconst (v := 0) hx hb dX10_minutesToAlarm_11 (by decide) ?_
  refine lv_goto (tgt := 16) hx hb dX10_minutesToAlarm_12 (by decide) ?_
  have hPc : va_P E.1 vwCl ([[(h0, .inr (9, [.int th, .ref k1, .int sd, .ref k2, .ref k3, .int ln, .int at0, .int pt, .int mi, .int nu, .long ha]))]] : List va_W).flatten H := zf_sub hP [0] rfl
  have hDc : va_D A ([[(h0, .inr (9, [.int th, .ref k1, .int sd, .ref k2, .ref k3, .int ln, .int at0, .int pt, .int mi, .int nu, .long ha]))]] : List va_W).flatten := zf_subD hD [0] (by decide) rfl
  refine z_mut (Sc := [[(h0, .inr (9, [.int th, .ref k1, .int sd, .ref k2, .ref k3, .int ln, .int at0, .int pt, .int mi, .int nu, .long ha]))]]) (Sr := [[(k1, .inl (E.2 0, 1160, .inl sv))]]) (W1 := [[(h0, .inr (9, [.int 0, .ref k1, .int sd, .ref k2, .ref k3, .int ln, .int at0, .int pt, .int mi, .int nu, .long ha]))]]) (va_runV (As := [.int 0]) (rest := []) ⟨hx, hb, hml, hown, hts⟩ (c_X10_holds l E h0 k1 k2 k3 th sd ln at0 pt mi nu ha 0 H.size) (cwV 1 hts gX10_minutesToAlarm_X10_holds rfl rfl rfl (by decide +kernel) ⟨Nat.le_of_ble_eq_true rfl, Nat.le_of_ble_eq_true rfl⟩) ⟨zP.blind, va_recv hK.1 hPc (ci := 9) (q0 := 0) rfl rfl, z_pre hK hPc hDc⟩ rfl rfl hl.1 rfl (lv_room (Nat.le_of_ble_eq_true rfl)) dX10_minutesToAlarm_16 ⟨Nat.le_of_ble_eq_true rfl, Nat.le_of_ble_eq_true rfl⟩) hP hD hS hA [0] [1] rfl rfl (by decide) (by decide) (fun H locs hP hD hS => ?_)
  have hP : va_P E.1 vwCl ([[(k1, .inl (E.2 0, 1160, .inl sv))], [(h0, .inr (9, [.int 0, .ref k1, .int sd, .ref k2, .ref k3, .int ln, .int at0, .int pt, .int mi, .int nu, .long ha]))]] : List va_W).flatten H := hP
  have hD : va_D A ([[(k1, .inl (E.2 0, 1160, .inl sv))], [(h0, .inr (9, [.int 0, .ref k1, .int sd, .ref k2, .ref k3, .int ln, .int at0, .int pt, .int mi, .int nu, .long ha]))]] : List va_W).flatten := hD
  refine W.eq (g2 := F0 Mi 19 ls [.int (m_z01 0)]) rfl ?_
  refine lv_if_eq (tgt := 30) hx hb dX10_minutesToAlarm_19 (by decide) (fun h9 => absurd h9 ((by decide))) (fun _ => ?_)
  refine lv_aload_n hx hb dX10_minutesToAlarm_22 rfl (lv_at hl 0 rfl) ?_
  refine lv_iload_n hx hb dX10_minutesToAlarm_23 rfl (lv_at hl 1 rfl) ?_
  have hPc : va_P E.1 vwCl ([[(h0, .inr (9, [.int 0, .ref k1, .int sd, .ref k2, .ref k3, .int ln, .int at0, .int pt, .int mi, .int nu, .long ha]))], [(k1, .inl (E.2 0, 1160, .inl sv))]] : List va_W).flatten H := zf_sub hP [1, 0] rfl
  have hDc : va_D A ([[(h0, .inr (9, [.int 0, .ref k1, .int sd, .ref k2, .ref k3, .int ln, .int at0, .int pt, .int mi, .int nu, .long ha]))], [(k1, .inl (E.2 0, 1160, .inl sv))]] : List va_W).flatten := zf_subD hD [1, 0] (by decide) rfl
  refine z_mut (Sc := [[(h0, .inr (9, [.int 0, .ref k1, .int sd, .ref k2, .ref k3, .int ln, .int at0, .int pt, .int mi, .int nu, .long ha]))], [(k1, .inl (E.2 0, 1160, .inl sv))]]) (Sr := []) (W1 := [[(h0, .inr (9, [.int 0, .ref k1, .int sd, .ref k2, .ref k3, .int ln, .int at0, .int pt, .int mi, .int nu, .long ha]))], [(k1, .inl (E.2 0, 1160, .inl (m_uaW sv m x)))]]) (va_runV (As := [.int x]) (rest := []) ⟨hx, hb, hml, hown, hts⟩ (c_X10_untilAlarm l E h0 k1 k2 k3 0 sd ln at0 pt mi nu ha sv m hm hm6 x pe pq hpe hpe1 hpe2 hp0 hp1 hp2 H.size) (cwV 1 hts gX10_minutesToAlarm_X10_untilAlarm rfl rfl rfl (by decide +kernel) ⟨Nat.le_of_ble_eq_true rfl, Nat.le_of_ble_eq_true rfl⟩) ⟨zP.blind, va_recv hK.1 hPc (ci := 9) (q0 := 0) rfl rfl, z_pre hK hPc hDc⟩ rfl rfl hl.1 rfl (lv_room (Nat.le_of_ble_eq_true rfl)) dX10_minutesToAlarm_24 ⟨Nat.le_of_ble_eq_true rfl, Nat.le_of_ble_eq_true rfl⟩) hP hD hS hA [1, 0] [] rfl rfl (by decide) (by decide) (fun H locs hP hD hS => ?_)
  have hP : va_P E.1 vwCl ([[(h0, .inr (9, [.int 0, .ref k1, .int sd, .ref k2, .ref k3, .int ln, .int at0, .int pt, .int mi, .int nu, .long ha]))], [(k1, .inl (E.2 0, 1160, .inl (m_uaW sv m x)))]] : List va_W).flatten H := hP
  have hD : va_D A ([[(h0, .inr (9, [.int 0, .ref k1, .int sd, .ref k2, .ref k3, .int ln, .int at0, .int pt, .int mi, .int nu, .long ha]))], [(k1, .inl (E.2 0, 1160, .inl (m_uaW sv m x)))]] : List va_W).flatten := hD
  refine W.eq (g2 := F0 Mi 27 ls [.int (m_uaV sv m x)]) rfl ?_
  refine lv_goto (tgt := 31) hx hb dX10_minutesToAlarm_27 (by decide) ?_
  have hP : va_P E.1 vwCl ([[(h0, .inr (9, [.int 0, .ref k1, .int sd, .ref k2, .ref k3, .int ln, .int at0, .int pt, .int mi, .int nu, .long ha]))], [(k1, .inl (E.2 0, 1160, .inl (m_uaW sv m x)))]] : List va_W).flatten H := zf_sub hP [0, 1] rfl
  have hD : va_D A ([[(h0, .inr (9, [.int 0, .ref k1, .int sd, .ref k2, .ref k3, .int ln, .int at0, .int pt, .int mi, .int nu, .long ha]))], [(k1, .inl (E.2 0, 1160, .inl (m_uaW sv m x)))]] : List va_W).flatten := zf_subD hD [0, 1] (by decide) rfl
  exact W.iret (v := (m_uaV sv m x)) hx hb hr (z_end hP hD hS rfl) hS.2.2 dX10_minutesToAlarm_31 hlocks

set_option maxHeartbeats 4000000 in
set_option maxRecDepth 100000 in
theorem c_X10_climbShare (l : Launch) (E : zE) (h0 k1 k2 k3 : Nat) (th sd ln at0 pt mi nu : Int32) (ha : Int64) (sv : Nat → Int32) (hdv : z_dv) : zM l yX10_climbShare wsX10_climbShare ({ frames := 0, cells := 0, slots := 0, locals := 0 }) E [.ref h0] ([[(h0, .inr (9, [.int th, .ref k1, .int sd, .ref k2, .ref k3, .int ln, .int at0, .int pt, .int mi, .int nu, .long ha]))], [(k1, .inl (E.2 0, 1160, .inl sv))]] : List va_W).flatten (some (.double (m_shr (sv 7) (sv 8)))) ([[(h0, .inr (9, [.int 0, .ref k1, .int sd, .ref k2, .ref k3, .int ln, .int at0, .int pt, .int mi, .int nu, .long ha]))], [(k1, .inl (E.2 0, 1160, .inl sv))]] : List va_W).flatten 0 0 := by
  refine z_start (cc := cX10_climbShare) (maxL := 2) (ret := (some .double)) (by decide) rfl (Nat.le_of_ble_eq_true rfl) ?_
  intro Pg En s Mi below meth Cd A hx hb hr hts hown hlocks hin hml hA H hH hP hK hD hS ls hl
  have hl : lv_has ls 2 [(0, .ref h0)] := hl
  have hi_X10 : ∀ w ∈ wsX100, w ∈ wsX10_climbShare := by decide +kernel
  refine lv_aload_n hx hb dX10_climbShare_0 rfl (lv_at hl 0 rfl) ?_
  refine lv_iconst (v := 0) hx hb dX10_climbShare_1 (by decide) ?_
  refine va_put (D := E.1) (ci := 9) (v := .int 0) (ty := .int) (C := RX10) (T := TX10) (N := 11) hx hb hts hi_X10 tyX10 tyX10_ok nmX10 hown hK.1 hP hD hS 0 rfl rfl 0 (by decide) (hts (.fieldLink RX10 20 "AltimeterWatchModel" "thrown" "I") (by decide +kernel)) (fun _ h9 => h9) rfl (by decide +kernel) rfl rfl (Nat.le_of_ble_eq_true rfl) dX10_climbShare_2 (fun H locs hP hD hS => ?_)
  have hP : va_P E.1 vwCl ([[(h0, .inr (9, [.int 0, .ref k1, .int sd, .ref k2, .ref k3, .int ln, .int at0, .int pt, .int mi, .int nu, .long ha]))], [(k1, .inl (E.2 0, 1160, .inl sv))]] : List va_W).flatten H := hP
  have hD : va_D A ([[(h0, .inr (9, [.int 0, .ref k1, .int sd, .ref k2, .ref k3, .int ln, .int at0, .int pt, .int mi, .int nu, .long ha]))], [(k1, .inl (E.2 0, 1160, .inl sv))]] : List va_W).flatten := hD
  refine lv_aload_n hx hb dX10_climbShare_5 rfl (lv_at hl 0 rfl) ?_
  refine va_get (D := E.1) (ci := 9) (v := .ref k1) (C := RX10) (T := TX10) (N := 11) hx hb hts hi_X10 hown hK.1 hP 0 rfl rfl 1 (by decide) (hts (.fieldLink RX10 7 "AltimeterWatchModel" "s" "[I") (by decide +kernel)) (fun _ h9 => h9) rfl dX10_climbShare_6 ?_
  refine lv_bipush (v := 7) hx hb dX10_climbShare_9 (by decide) ?_
  refine z_iald (k := 7) hx hb hK.1 hP 1 rfl rfl (by decide) (by decide) dX10_climbShare_11 ?_
  refine lv_aload_n hx hb dX10_climbShare_12 rfl (lv_at hl 0 rfl) ?_
  refine va_get (D := E.1) (ci := 9) (v := .ref k1) (C := RX10) (T := TX10) (N := 11) hx hb hts hi_X10 hown hK.1 hP 0 rfl rfl 1 (by decide) (hts (.fieldLink RX10 7 "AltimeterWatchModel" "s" "[I") (by decide +kernel)) (fun _ h9 => h9) rfl dX10_climbShare_13 ?_
  refine lv_bipush (v := 8) hx hb dX10_climbShare_16 (by decide) ?_
  refine z_iald (k := 8) hx hb hK.1 hP 1 rfl rfl (by decide) (by decide) dX10_climbShare_18 ?_
  refine lv_iadd hx hb dX10_climbShare_19 ?_
  refine lv_topi (fun f_1 ef_1 => ?_)
  refine lv_istore_n (lv' := [(1, .int f_1), (0, .ref h0)]) hx hb dX10_climbShare_20 rfl hl (by decide) rfl (fun ls hl => ?_)
  refine lv_iload_n hx hb dX10_climbShare_21 rfl (lv_at hl 0 rfl) ?_
  refine lv_if_ne (tgt := 31) hx hb dX10_climbShare_22 (by decide) (fun c_22 => ?_) (fun c_22 => ?_)
  · refine lv_aload_n hx hb dX10_climbShare_31 rfl (lv_at hl 1 rfl) ?_
    refine va_get (D := E.1) (ci := 9) (v := .ref k1) (C := RX10) (T := TX10) (N := 11) hx hb hts hi_X10 hown hK.1 hP 0 rfl rfl 1 (by decide) (hts (.fieldLink RX10 7 "AltimeterWatchModel" "s" "[I") (by decide +kernel)) (fun _ h9 => h9) rfl dX10_climbShare_32 ?_
    refine lv_bipush (v := 7) hx hb dX10_climbShare_35 (by decide) ?_
    refine z_iald (k := 7) hx hb hK.1 hP 1 rfl rfl (by decide) (by decide) dX10_climbShare_37 ?_
    refine lv_i2d hx hb dX10_climbShare_38 ?_
    refine lv_iload_n hx hb dX10_climbShare_39 rfl (lv_at hl 0 rfl) ?_
    refine lv_i2d hx hb dX10_climbShare_40 ?_
    refine lv_ddiv hx hb dX10_climbShare_41 (hdv _ _ c_22) ?_
    refine z_topd (y := m_shr (sv 7) (sv 8)) (by rw [m_shr, if_neg (by rw [← ef_1]; exact c_22), ← ef_1]) ?_
    have hP : va_P E.1 vwCl ([[(h0, .inr (9, [.int 0, .ref k1, .int sd, .ref k2, .ref k3, .int ln, .int at0, .int pt, .int mi, .int nu, .long ha]))], [(k1, .inl (E.2 0, 1160, .inl sv))]] : List va_W).flatten H := zf_sub hP [0, 1] rfl
    have hD : va_D A ([[(h0, .inr (9, [.int 0, .ref k1, .int sd, .ref k2, .ref k3, .int ln, .int at0, .int pt, .int mi, .int nu, .long ha]))], [(k1, .inl (E.2 0, 1160, .inl sv))]] : List va_W).flatten := zf_subD hD [0, 1] (by decide) rfl
    exact W.dret (v := m_shr (sv 7) (sv 8)) hx hb hr (z_end hP hD hS rfl) hS.2.2 dX10_climbShare_42 hlocks
  · refine lv_ldc2d hx hb hown (hts (.constantDouble RX10 110 (4602678819172646912)) (by decide +kernel)) dX10_climbShare_25 ?_
    refine lv_goto (tgt := 42) hx hb dX10_climbShare_28 (by decide) ?_
    refine z_topd (y := m_shr (sv 7) (sv 8)) (by rw [m_shr, if_pos (by rw [← ef_1]; exact c_22)]) ?_
    have hP : va_P E.1 vwCl ([[(h0, .inr (9, [.int 0, .ref k1, .int sd, .ref k2, .ref k3, .int ln, .int at0, .int pt, .int mi, .int nu, .long ha]))], [(k1, .inl (E.2 0, 1160, .inl sv))]] : List va_W).flatten H := zf_sub hP [0, 1] rfl
    have hD : va_D A ([[(h0, .inr (9, [.int 0, .ref k1, .int sd, .ref k2, .ref k3, .int ln, .int at0, .int pt, .int mi, .int nu, .long ha]))], [(k1, .inl (E.2 0, 1160, .inl sv))]] : List va_W).flatten := zf_subD hD [0, 1] (by decide) rfl
    exact W.dret (v := m_shr (sv 7) (sv 8)) hx hb hr (z_end hP hD hS rfl) hS.2.2 dX10_climbShare_42 hlocks

def m_s0 : Nat → Int32 := upd (upd (upd (upd (fun _ => 0) 0 10132) 1 10132) 10 50) 11 40

set_option maxHeartbeats 4000000 in
set_option maxRecDepth 100000 in
theorem c_X10_init (l : Launch) (E : zE) (h0 : Nat) : zX l yX10_init wsX10_init ({ frames := 1, cells := 3, slots := 1222, locals := 20 }) E [.ref h0] ([[(h0, .inr (9, [.int 0, .null, .int 0, .null, .null, .int 0, .int 0, .int 0, .int 0, .int 0, .long 0]))]] : List va_W).flatten none (fun u : Nat × Nat × Nat => ([[(h0, .inr (9, [.int 0, .ref u.1, .int 0, .ref u.2.1, .ref u.2.2, .int 0, .int 0, .int 0, .int 0, .int 0, .long 0]))], [(u.1, .inl (E.2 0, 1160, .inl m_s0))], [(u.2.1, .inl (E.2 1, 2, .inl (fun _ => 0)))], [(u.2.2, .inl (E.2 0, 60, .inl (fun _ => 0)))]] : List va_W).flatten) 3 1222 := by
  refine z_startx (cc := cX10_init) (maxL := 1) (ret := none) (by decide) rfl (Nat.le_of_ble_eq_true rfl) ?_
  intro Pg En s Mi below meth Cd A hx hb hr hts hown hlocks hin hml hA H hH hP hK hD hS ls hl
  have hl : lv_has ls 1 [(0, .ref h0)] := hl
  have hi_X10 : ∀ w ∈ wsX100, w ∈ wsX10_init := by decide +kernel
  refine lv_aload_n hx hb dX10_init_0 rfl (lv_at hl 0 rfl) ?_
  refine W.objInit hx hb hown (hts (.methodLink RX10 1 objectInit) (by decide +kernel)) (hts (.instanceMethod objectInit) (by decide +kernel)) (hts (.code objectInit ⟨#[0xb1]⟩ 1 none) (by decide +kernel)) rfl (by rw [hml]; exact hl.1) rfl dX10_init_1 (Nat.le_of_ble_eq_true rfl) (Nat.le_of_ble_eq_true rfl) ?_
  refine W.eq (g2 := F0 Mi 4 ls []) rfl ?_
  refine lv_aload_n hx hb dX10_init_4 rfl (lv_at hl 0 rfl) ?_
  refine lv_sipush (v := 1160) hx hb dX10_init_5 (by decide) ?_
  refine va_newa (D := E.1) (atype := .int) (ty := .int) (N' := 1160) (a0 := (1160, .inl (fun _ => 0))) hx hb (hts (.arrayClass .int) (by decide +kernel)) rfl hK.1 hP hD hS hA (fun _ => rfl) (by decide) (by decide +kernel) (by decide +kernel) (Nat.le_of_ble_eq_true rfl) (Nat.le_of_ble_eq_true rfl) dX10_init_8 (fun q_8 cA H hK9 hP hD hS => ?_)
  have eA := z_cy0 hK9
  subst eA
  have hP : va_P E.1 vwCl ([[(h0, .inr (9, [.int 0, .null, .int 0, .null, .null, .int 0, .int 0, .int 0, .int 0, .int 0, .long 0]))], [(q_8, .inl (E.2 0, 1160, .inl (fun _ => 0)))]] : List va_W).flatten H := hP
  have hD : va_D A ([[(h0, .inr (9, [.int 0, .null, .int 0, .null, .null, .int 0, .int 0, .int 0, .int 0, .int 0, .long 0]))], [(q_8, .inl (E.2 0, 1160, .inl (fun _ => 0)))]] : List va_W).flatten := hD
  refine W.widen (k := 1) (n := 1160) (by decide) (by decide) ?_
  refine va_putF (D := E.1) (ci := 9) (v := .ref q_8) (ty := .array .int) (C := RX10) (T := TX10) (N := 11) hx hb hts hi_X10 tyX10 tyX10_ok nmX10 hown hK.1 hP hD hS 0 rfl rfl 1 (by decide) (hts (.fieldLink RX10 7 "AltimeterWatchModel" "s" "[I") (by decide +kernel)) (fun _ h9 => h9) rfl hin rfl (by decide +kernel) rfl rfl (Nat.le_of_ble_eq_true rfl) dX10_init_10 (fun H locs hP hD hS => ?_)
  have hP : va_P E.1 vwCl ([[(h0, .inr (9, [.int 0, .ref q_8, .int 0, .null, .null, .int 0, .int 0, .int 0, .int 0, .int 0, .long 0]))], [(q_8, .inl (E.2 0, 1160, .inl (fun _ => 0)))]] : List va_W).flatten H := hP
  have hD : va_D A ([[(h0, .inr (9, [.int 0, .ref q_8, .int 0, .null, .null, .int 0, .int 0, .int 0, .int 0, .int 0, .long 0]))], [(q_8, .inl (E.2 0, 1160, .inl (fun _ => 0)))]] : List va_W).flatten := hD
  refine lv_aload_n hx hb dX10_init_13 rfl (lv_at hl 0 rfl) ?_
  refine lv_iconst (v := 2) hx hb dX10_init_14 (by decide) ?_
  refine va_newa (D := E.1) (atype := .boolean) (ty := .boolean) (N' := 2) (a0 := (2, .inl (fun _ => 0))) hx hb (hts (.arrayClass .boolean) (by decide +kernel)) rfl hK.1 hP hD hS hA (fun _ => rfl) (by decide) (by decide +kernel) (by decide +kernel) (Nat.le_of_ble_eq_true rfl) (Nat.le_of_ble_eq_true rfl) dX10_init_15 (fun q_15 cA H hK9 hP hD hS => ?_)
  have eA := z_cy1 hK9
  subst eA
  have hP : va_P E.1 vwCl ([[(h0, .inr (9, [.int 0, .ref q_8, .int 0, .null, .null, .int 0, .int 0, .int 0, .int 0, .int 0, .long 0]))], [(q_8, .inl (E.2 0, 1160, .inl (fun _ => 0)))], [(q_15, .inl (E.2 1, 2, .inl (fun _ => 0)))]] : List va_W).flatten H := hP
  have hD : va_D A ([[(h0, .inr (9, [.int 0, .ref q_8, .int 0, .null, .null, .int 0, .int 0, .int 0, .int 0, .int 0, .long 0]))], [(q_8, .inl (E.2 0, 1160, .inl (fun _ => 0)))], [(q_15, .inl (E.2 1, 2, .inl (fun _ => 0)))]] : List va_W).flatten := hD
  refine W.widen (k := 2) (n := 1162) (by decide) (by decide) ?_
  refine va_putF (D := E.1) (ci := 9) (v := .ref q_15) (ty := .array .boolean) (C := RX10) (T := TX10) (N := 11) hx hb hts hi_X10 tyX10 tyX10_ok nmX10 hown hK.1 hP hD hS 0 rfl rfl 3 (by decide) (hts (.fieldLink RX10 13 "AltimeterWatchModel" "isFilled" "[Z") (by decide +kernel)) (fun _ h9 => h9) rfl hin rfl (by decide +kernel) rfl rfl (Nat.le_of_ble_eq_true rfl) dX10_init_17 (fun H locs hP hD hS => ?_)
  have hP : va_P E.1 vwCl ([[(h0, .inr (9, [.int 0, .ref q_8, .int 0, .ref q_15, .null, .int 0, .int 0, .int 0, .int 0, .int 0, .long 0]))], [(q_8, .inl (E.2 0, 1160, .inl (fun _ => 0)))], [(q_15, .inl (E.2 1, 2, .inl (fun _ => 0)))]] : List va_W).flatten H := hP
  have hD : va_D A ([[(h0, .inr (9, [.int 0, .ref q_8, .int 0, .ref q_15, .null, .int 0, .int 0, .int 0, .int 0, .int 0, .long 0]))], [(q_8, .inl (E.2 0, 1160, .inl (fun _ => 0)))], [(q_15, .inl (E.2 1, 2, .inl (fun _ => 0)))]] : List va_W).flatten := hD
  refine lv_aload_n hx hb dX10_init_20 rfl (lv_at hl 0 rfl) ?_
  refine lv_bipush (v := 60) hx hb dX10_init_21 (by decide) ?_
  refine va_newa (D := E.1) (atype := .int) (ty := .int) (N' := 60) (a0 := (60, .inl (fun _ => 0))) hx hb (hts (.arrayClass .int) (by decide +kernel)) rfl hK.1 hP hD hS hA (fun _ => rfl) (by decide) (by decide +kernel) (by decide +kernel) (Nat.le_of_ble_eq_true rfl) (Nat.le_of_ble_eq_true rfl) dX10_init_23 (fun q_23 cA H hK9 hP hD hS => ?_)
  have eA := z_cy0 hK9
  subst eA
  have hP : va_P E.1 vwCl ([[(h0, .inr (9, [.int 0, .ref q_8, .int 0, .ref q_15, .null, .int 0, .int 0, .int 0, .int 0, .int 0, .long 0]))], [(q_8, .inl (E.2 0, 1160, .inl (fun _ => 0)))], [(q_15, .inl (E.2 1, 2, .inl (fun _ => 0)))], [(q_23, .inl (E.2 0, 60, .inl (fun _ => 0)))]] : List va_W).flatten H := hP
  have hD : va_D A ([[(h0, .inr (9, [.int 0, .ref q_8, .int 0, .ref q_15, .null, .int 0, .int 0, .int 0, .int 0, .int 0, .long 0]))], [(q_8, .inl (E.2 0, 1160, .inl (fun _ => 0)))], [(q_15, .inl (E.2 1, 2, .inl (fun _ => 0)))], [(q_23, .inl (E.2 0, 60, .inl (fun _ => 0)))]] : List va_W).flatten := hD
  refine W.widen (k := 3) (n := 1222) (by decide) (by decide) ?_
  refine va_putF (D := E.1) (ci := 9) (v := .ref q_23) (ty := .array .int) (C := RX10) (T := TX10) (N := 11) hx hb hts hi_X10 tyX10 tyX10_ok nmX10 hown hK.1 hP hD hS 0 rfl rfl 4 (by decide) (hts (.fieldLink RX10 17 "AltimeterWatchModel" "text" "[I") (by decide +kernel)) (fun _ h9 => h9) rfl hin rfl (by decide +kernel) rfl rfl (Nat.le_of_ble_eq_true rfl) dX10_init_25 (fun H locs hP hD hS => ?_)
  have hP : va_P E.1 vwCl ([[(h0, .inr (9, [.int 0, .ref q_8, .int 0, .ref q_15, .ref q_23, .int 0, .int 0, .int 0, .int 0, .int 0, .long 0]))], [(q_8, .inl (E.2 0, 1160, .inl (fun _ => 0)))], [(q_15, .inl (E.2 1, 2, .inl (fun _ => 0)))], [(q_23, .inl (E.2 0, 60, .inl (fun _ => 0)))]] : List va_W).flatten H := hP
  have hD : va_D A ([[(h0, .inr (9, [.int 0, .ref q_8, .int 0, .ref q_15, .ref q_23, .int 0, .int 0, .int 0, .int 0, .int 0, .long 0]))], [(q_8, .inl (E.2 0, 1160, .inl (fun _ => 0)))], [(q_15, .inl (E.2 1, 2, .inl (fun _ => 0)))], [(q_23, .inl (E.2 0, 60, .inl (fun _ => 0)))]] : List va_W).flatten := hD
  refine lv_aload_n hx hb dX10_init_28 rfl (lv_at hl 0 rfl) ?_
  refine va_get (D := E.1) (ci := 9) (v := .ref q_8) (C := RX10) (T := TX10) (N := 11) hx hb hts hi_X10 hown hK.1 hP 0 rfl rfl 1 (by decide) (hts (.fieldLink RX10 7 "AltimeterWatchModel" "s" "[I") (by decide +kernel)) (fun _ h9 => h9) rfl dX10_init_29 ?_
  refine lv_iconst (v := 0) hx hb dX10_init_32 (by decide) ?_
  refine lv_sipush (v := 10132) hx hb dX10_init_33 (by decide) ?_
  refine z_iast (k := 0) hx hb hK.1 hP hD hS 1 rfl rfl (by decide) (by decide) dX10_init_36 (fun H locs hP hD hS => ?_)
  have hP : va_P E.1 vwCl ([[(h0, .inr (9, [.int 0, .ref q_8, .int 0, .ref q_15, .ref q_23, .int 0, .int 0, .int 0, .int 0, .int 0, .long 0]))], [(q_8, .inl (E.2 0, 1160, .inl (upd (fun _ => 0) 0 10132)))], [(q_15, .inl (E.2 1, 2, .inl (fun _ => 0)))], [(q_23, .inl (E.2 0, 60, .inl (fun _ => 0)))]] : List va_W).flatten H := hP
  have hD : va_D A ([[(h0, .inr (9, [.int 0, .ref q_8, .int 0, .ref q_15, .ref q_23, .int 0, .int 0, .int 0, .int 0, .int 0, .long 0]))], [(q_8, .inl (E.2 0, 1160, .inl (upd (fun _ => 0) 0 10132)))], [(q_15, .inl (E.2 1, 2, .inl (fun _ => 0)))], [(q_23, .inl (E.2 0, 60, .inl (fun _ => 0)))]] : List va_W).flatten := hD
  refine lv_aload_n hx hb dX10_init_37 rfl (lv_at hl 0 rfl) ?_
  refine va_get (D := E.1) (ci := 9) (v := .ref q_8) (C := RX10) (T := TX10) (N := 11) hx hb hts hi_X10 hown hK.1 hP 0 rfl rfl 1 (by decide) (hts (.fieldLink RX10 7 "AltimeterWatchModel" "s" "[I") (by decide +kernel)) (fun _ h9 => h9) rfl dX10_init_38 ?_
  refine lv_iconst (v := 1) hx hb dX10_init_41 (by decide) ?_
  refine lv_sipush (v := 10132) hx hb dX10_init_42 (by decide) ?_
  refine z_iast (k := 1) hx hb hK.1 hP hD hS 1 rfl rfl (by decide) (by decide) dX10_init_45 (fun H locs hP hD hS => ?_)
  have hP : va_P E.1 vwCl ([[(h0, .inr (9, [.int 0, .ref q_8, .int 0, .ref q_15, .ref q_23, .int 0, .int 0, .int 0, .int 0, .int 0, .long 0]))], [(q_8, .inl (E.2 0, 1160, .inl (upd (upd (fun _ => 0) 0 10132) 1 10132)))], [(q_15, .inl (E.2 1, 2, .inl (fun _ => 0)))], [(q_23, .inl (E.2 0, 60, .inl (fun _ => 0)))]] : List va_W).flatten H := hP
  have hD : va_D A ([[(h0, .inr (9, [.int 0, .ref q_8, .int 0, .ref q_15, .ref q_23, .int 0, .int 0, .int 0, .int 0, .int 0, .long 0]))], [(q_8, .inl (E.2 0, 1160, .inl (upd (upd (fun _ => 0) 0 10132) 1 10132)))], [(q_15, .inl (E.2 1, 2, .inl (fun _ => 0)))], [(q_23, .inl (E.2 0, 60, .inl (fun _ => 0)))]] : List va_W).flatten := hD
  refine lv_aload_n hx hb dX10_init_46 rfl (lv_at hl 0 rfl) ?_
  refine va_get (D := E.1) (ci := 9) (v := .ref q_8) (C := RX10) (T := TX10) (N := 11) hx hb hts hi_X10 hown hK.1 hP 0 rfl rfl 1 (by decide) (hts (.fieldLink RX10 7 "AltimeterWatchModel" "s" "[I") (by decide +kernel)) (fun _ h9 => h9) rfl dX10_init_47 ?_
  refine lv_bipush (v := 10) hx hb dX10_init_50 (by decide) ?_
  refine lv_bipush (v := 50) hx hb dX10_init_52 (by decide) ?_
  refine z_iast (k := 10) hx hb hK.1 hP hD hS 1 rfl rfl (by decide) (by decide) dX10_init_54 (fun H locs hP hD hS => ?_)
  have hP : va_P E.1 vwCl ([[(h0, .inr (9, [.int 0, .ref q_8, .int 0, .ref q_15, .ref q_23, .int 0, .int 0, .int 0, .int 0, .int 0, .long 0]))], [(q_8, .inl (E.2 0, 1160, .inl (upd (upd (upd (fun _ => 0) 0 10132) 1 10132) 10 50)))], [(q_15, .inl (E.2 1, 2, .inl (fun _ => 0)))], [(q_23, .inl (E.2 0, 60, .inl (fun _ => 0)))]] : List va_W).flatten H := hP
  have hD : va_D A ([[(h0, .inr (9, [.int 0, .ref q_8, .int 0, .ref q_15, .ref q_23, .int 0, .int 0, .int 0, .int 0, .int 0, .long 0]))], [(q_8, .inl (E.2 0, 1160, .inl (upd (upd (upd (fun _ => 0) 0 10132) 1 10132) 10 50)))], [(q_15, .inl (E.2 1, 2, .inl (fun _ => 0)))], [(q_23, .inl (E.2 0, 60, .inl (fun _ => 0)))]] : List va_W).flatten := hD
  refine lv_aload_n hx hb dX10_init_55 rfl (lv_at hl 0 rfl) ?_
  refine va_get (D := E.1) (ci := 9) (v := .ref q_8) (C := RX10) (T := TX10) (N := 11) hx hb hts hi_X10 hown hK.1 hP 0 rfl rfl 1 (by decide) (hts (.fieldLink RX10 7 "AltimeterWatchModel" "s" "[I") (by decide +kernel)) (fun _ h9 => h9) rfl dX10_init_56 ?_
  refine lv_bipush (v := 11) hx hb dX10_init_59 (by decide) ?_
  refine lv_bipush (v := 40) hx hb dX10_init_61 (by decide) ?_
  refine z_iast (k := 11) hx hb hK.1 hP hD hS 1 rfl rfl (by decide) (by decide) dX10_init_63 (fun H locs hP hD hS => ?_)
  have hP : va_P E.1 vwCl ([[(h0, .inr (9, [.int 0, .ref q_8, .int 0, .ref q_15, .ref q_23, .int 0, .int 0, .int 0, .int 0, .int 0, .long 0]))], [(q_8, .inl (E.2 0, 1160, .inl (upd (upd (upd (upd (fun _ => 0) 0 10132) 1 10132) 10 50) 11 40)))], [(q_15, .inl (E.2 1, 2, .inl (fun _ => 0)))], [(q_23, .inl (E.2 0, 60, .inl (fun _ => 0)))]] : List va_W).flatten H := hP
  have hD : va_D A ([[(h0, .inr (9, [.int 0, .ref q_8, .int 0, .ref q_15, .ref q_23, .int 0, .int 0, .int 0, .int 0, .int 0, .long 0]))], [(q_8, .inl (E.2 0, 1160, .inl (upd (upd (upd (upd (fun _ => 0) 0 10132) 1 10132) 10 50) 11 40)))], [(q_15, .inl (E.2 1, 2, .inl (fun _ => 0)))], [(q_23, .inl (E.2 0, 60, .inl (fun _ => 0)))]] : List va_W).flatten := hD
  have hP : va_P E.1 vwCl ([[(h0, .inr (9, [.int 0, .ref q_8, .int 0, .ref q_15, .ref q_23, .int 0, .int 0, .int 0, .int 0, .int 0, .long 0]))], [(q_8, .inl (E.2 0, 1160, .inl (upd (upd (upd (upd (fun _ => 0) 0 10132) 1 10132) 10 50) 11 40)))], [(q_15, .inl (E.2 1, 2, .inl (fun _ => 0)))], [(q_23, .inl (E.2 0, 60, .inl (fun _ => 0)))]] : List va_W).flatten H := zf_sub hP [0, 1, 2, 3] rfl
  have hD : va_D A ([[(h0, .inr (9, [.int 0, .ref q_8, .int 0, .ref q_15, .ref q_23, .int 0, .int 0, .int 0, .int 0, .int 0, .long 0]))], [(q_8, .inl (E.2 0, 1160, .inl (upd (upd (upd (upd (fun _ => 0) 0 10132) 1 10132) 10 50) 11 40)))], [(q_15, .inl (E.2 1, 2, .inl (fun _ => 0)))], [(q_23, .inl (E.2 0, 60, .inl (fun _ => 0)))]] : List va_W).flatten := zf_subD hD [0, 1, 2, 3] (by decide) rfl
  exact W.vret hx hb hr (z_endx (w1 := (fun u : Nat × Nat × Nat => ([[(h0, .inr (9, [.int 0, .ref u.1, .int 0, .ref u.2.1, .ref u.2.2, .int 0, .int 0, .int 0, .int 0, .int 0, .long 0]))], [(u.1, .inl (E.2 0, 1160, .inl m_s0))], [(u.2.1, .inl (E.2 1, 2, .inl (fun _ => 0)))], [(u.2.2, .inl (E.2 0, 60, .inl (fun _ => 0)))]] : List va_W).flatten)) (q_8, q_15, q_23) hP hD hS rfl) hS.2.2 dX10_init_64 hlocks
