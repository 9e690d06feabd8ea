section ZB
variable {p : Program} {l : Launch} {e : Env} {R : Room} {s : State} {m : MethodId} {args : Array Value} {below : List Frame} {meth : Method} {c : Code} {H : Heap} {locs : List Loc} {cells slots : Nat} {Q : State → Prop}
variable {pc : Nat} {ls : Array Slot} {rest : List Value} {A0 : Nat → Prop} {H0 : Heap}
theorem z_zast {cc : ByteArray} {E : zE} {ws : va_W} {aa n k : Nat} {f : Nat → Int32} {i x : Int32} (hx : p.tables.exec = Jvm.exec) (hb : c.code = cc) (hK : va_K E.1 vwCl (zty E) s) (hP : va_P E.1 vwCl ws H) (hD : va_D A0 ws) (hS : va_S A0 H0 H locs) (q0 : Nat) (ha : ws[q0]? = some (aa, .inl (E.2 1, n, .inl f))) (hi : i = nI k) (hk : k < n) (hn : n < 2 ^ 31) (hx1 : vp_nar .boolean x = x) (hdg : decode cc pc = .ok (.bastore, 1))
    (kk : ∀ (H1 : Heap) (locs1 : List Loc), va_P E.1 vwCl (ws.set q0 (aa, .inl (E.2 1, n, .inl (upd f k x)))) H1 → va_D A0 (ws.set q0 (aa, .inl (E.2 1, n, .inl (upd f k x)))) → va_S A0 H0 H1 locs1 → W p l e R s m args below meth c H1 locs1 cells slots Q (F0 m (pc + 1) ls rest)) : W p l e R s m args below meth c H locs cells slots Q (F0 m pc ls (.int x :: .int i :: .ref aa :: rest)) := by
  subst hi
  refine va_zast hx hb hK hP hD hS q0 1 ha rfl (vp_in_nI hk hn) hdg ?_
  rw [nI_clamp (Nat.lt_trans hk hn), hx1]
  exact kk
end ZB

set_option maxHeartbeats 4000000 in
set_option maxRecDepth 100000 in
theorem c_X10_store_n (l : Launch) (E : zE) (h0 k1 k2 k3 : Nat) (th sd ln at0 pt mi nu : Int32) (ha : Int64) (sv : Nat → Int32) (fl : Nat → Int32) (x : Int32) (hok : m_in x 0 1 = 0) : zM l yX10_store wsX10_store ({ frames := 1, cells := 0, slots := 0, locals := 22 }) E [.ref h0, .int x] ([[(h0, .inr (9, [.int th, .ref k1, .int sd, .ref k2, .ref k3, .int ln, .int at0, .int pt, .int mi, .int nu, .long ha]))], [(k1, .inl (E.2 0, 1160, .inl sv))], [(k2, .inl (E.2 1, 2, .inl fl))]] : List va_W).flatten (some (.int 0)) ([[(h0, .inr (9, [.int 1, .ref k1, .int sd, .ref k2, .ref k3, .int ln, .int at0, .int pt, .int mi, .int nu, .long ha]))], [(k1, .inl (E.2 0, 1160, .inl sv))], [(k2, .inl (E.2 1, 2, .inl fl))]] : List va_W).flatten 0 0 := by
  refine z_start (cc := cX10_store) (maxL := 2) (ret := (some .int)) (by decide) rfl (Nat.le_of_ble_eq_true rfl) ?_
  intro Pg En s Mi below meth Cd A hx hb hr hts hown hlocks hin hml hA H hH hP hK hD hS ls hl
  have hl : lv_has ls 2 [(0, .ref h0), (1, .int x)] := hl
  refine lv_aload_n hx hb dX10_store_0 rfl (lv_at hl 0 rfl) ?_
  refine lv_iload_n hx hb dX10_store_1 rfl (lv_at hl 1 rfl) ?_
  refine lv_iconst (v := 0) hx hb dX10_store_2 (by decide) ?_
  refine lv_iconst (v := 1) hx hb dX10_store_3 (by decide) ?_
  refine z_rdv (va_runS (As := [.int x, .int 0, .int 1]) (rest := [.ref h0]) ⟨hx, hb, hml, hown, hts⟩ (c_X10_in l E x 0 1) (va_cwS 3 hts gX10_store_X10_in rfl rfl rfl (by decide +kernel) ⟨Nat.le_of_ble_eq_true rfl, Nat.le_of_ble_eq_true rfl⟩) ⟨zPr.blind, z_prer hK zP_nil⟩ rfl rfl hl.1 rfl (lv_room (Nat.le_of_ble_eq_true rfl)) dX10_store_4 ⟨Nat.le_of_ble_eq_true rfl, Nat.le_of_ble_eq_true rfl⟩) ?_
  refine W.eq (g2 := F0 Mi 7 ls [.int (m_in x 0 1), .ref h0]) rfl ?_
  refine lv_if_eq (tgt := 14) hx hb dX10_store_7 (by decide) (fun _ => ?_) (fun h9 => absurd (hok) h9)
  refine lv_iconst (v := 1) hx hb dX10_store_14 (by decide) ?_
  have hPc : va_P E.1 vwCl ([[(h0, .inr (9, [.int th, .ref k1, .int sd, .ref k2, .ref k3, .int ln, .int at0, .int pt, .int mi, .int nu, .long ha]))]] : List va_W).flatten H := zf_sub hP [0] rfl
  have hDc : va_D A ([[(h0, .inr (9, [.int th, .ref k1, .int sd, .ref k2, .ref k3, .int ln, .int at0, .int pt, .int mi, .int nu, .long ha]))]] : List va_W).flatten := zf_subD hD [0] (by decide) rfl
  refine z_mut (Sc := [[(h0, .inr (9, [.int th, .ref k1, .int sd, .ref k2, .ref k3, .int ln, .int at0, .int pt, .int mi, .int nu, .long ha]))]]) (Sr := [[(k1, .inl (E.2 0, 1160, .inl sv))], [(k2, .inl (E.2 1, 2, .inl fl))]]) (W1 := [[(h0, .inr (9, [.int 1, .ref k1, .int sd, .ref k2, .ref k3, .int ln, .int at0, .int pt, .int mi, .int nu, .long ha]))]]) (va_runV (As := [.int 1]) (rest := []) ⟨hx, hb, hml, hown, hts⟩ (c_X10_holds l E h0 k1 k2 k3 th sd ln at0 pt mi nu ha 1 H.size) (cwV 1 hts gX10_store_X10_holds rfl rfl rfl (by decide +kernel) ⟨Nat.le_of_ble_eq_true rfl, Nat.le_of_ble_eq_true rfl⟩) ⟨zP.blind, va_recv hK.1 hPc (ci := 9) (q0 := 0) rfl rfl, z_pre hK hPc hDc⟩ rfl rfl hl.1 rfl (lv_room (Nat.le_of_ble_eq_true rfl)) dX10_store_15 ⟨Nat.le_of_ble_eq_true rfl, Nat.le_of_ble_eq_true rfl⟩) hP hD hS hA [0] [1, 2] rfl rfl (by decide) (by decide) (fun H locs hP hD hS => ?_)
  have hP : va_P E.1 vwCl ([[(k1, .inl (E.2 0, 1160, .inl sv))], [(k2, .inl (E.2 1, 2, .inl fl))], [(h0, .inr (9, [.int 1, .ref k1, .int sd, .ref k2, .ref k3, .int ln, .int at0, .int pt, .int mi, .int nu, .long ha]))]] : List va_W).flatten H := hP
  have hD : va_D A ([[(k1, .inl (E.2 0, 1160, .inl sv))], [(k2, .inl (E.2 1, 2, .inl fl))], [(h0, .inr (9, [.int 1, .ref k1, .int sd, .ref k2, .ref k3, .int ln, .int at0, .int pt, .int mi, .int nu, .long ha]))]] : List va_W).flatten := hD
  refine W.eq (g2 := F0 Mi 18 ls [.int (m_z01 1)]) rfl ?_
  refine lv_if_ne (tgt := 23) hx hb dX10_store_18 (by decide) (fun h9 => absurd h9 ((by decide))) (fun _ => ?_)
  refine lv_iconst (v := 0) hx hb dX10_store_21 (by decide) ?_
  have hP : va_P E.1 vwCl ([[(h0, .inr (9, [.int 1, .ref k1, .int sd, .ref k2, .ref k3, .int ln, .int at0, .int pt, .int mi, .int nu, .long ha]))], [(k1, .inl (E.2 0, 1160, .inl sv))], [(k2, .inl (E.2 1, 2, .inl fl))]] : List va_W).flatten H := zf_sub hP [2, 0, 1] rfl
  have hD : va_D A ([[(h0, .inr (9, [.int 1, .ref k1, .int sd, .ref k2, .ref k3, .int ln, .int at0, .int pt, .int mi, .int nu, .long ha]))], [(k1, .inl (E.2 0, 1160, .inl sv))], [(k2, .inl (E.2 1, 2, .inl fl))]] : List va_W).flatten := zf_subD hD [2, 0, 1] (by decide) rfl
  exact W.iret (v := 0) hx hb hr (z_end hP hD hS rfl) hS.2.2 dX10_store_22 hlocks

set_option maxHeartbeats 4000000 in
set_option maxRecDepth 100000 in
theorem c_X10_store_y (l : Launch) (E : zE) (h0 k1 k2 k3 : Nat) (th sd ln at0 pt mi nu : Int32) (ha : Int64) (sv : Nat → Int32) (fl : Nat → Int32) (x : Int32) (k : Nat) (hx1 : x = nI k) (hk : k < 2) (hok : m_in x 0 1 = 1) : zM l yX10_store wsX10_store ({ frames := 2, cells := 0, slots := 0, locals := 42 }) E [.ref h0, .int x] ([[(h0, .inr (9, [.int th, .ref k1, .int sd, .ref k2, .ref k3, .int ln, .int at0, .int pt, .int mi, .int nu, .long ha]))], [(k1, .inl (E.2 0, 1160, .inl sv))], [(k2, .inl (E.2 1, 2, .inl fl))]] : List va_W).flatten (some (.int (m_std ((m_cpA sv 0 (7 + k) 116) (0 + 0)) - m_std ((m_cpA sv 0 (7 + k) 116) (0 + 1))))) ([[(h0, .inr (9, [.int 0, .ref k1, .int sd, .ref k2, .ref k3, .int ln, .int at0, .int pt, .int mi, .int nu, .long ha]))], [(k1, .inl (E.2 0, 1160, .inl (m_cpA sv 0 (7 + k) 116)))], [(k2, .inl (E.2 1, 2, .inl (upd fl k 1)))]] : List va_W).flatten 0 0 := by
  refine z_start (cc := cX10_store) (maxL := 2) (ret := (some .int)) (by decide) rfl (Nat.le_of_ble_eq_true rfl) ?_
  intro Pg En s Mi below meth Cd A hx hb hr hts hown hlocks hin hml hA H hH hP hK hD hS ls hl
  have hl : lv_has ls 2 [(0, .ref h0), (1, .int x)] := hl
  have hi_X10 : ∀ w ∈ wsX100, w ∈ wsX10_store := by decide +kernel
  refine lv_aload_n hx hb dX10_store_0 rfl (lv_at hl 0 rfl) ?_
  refine lv_iload_n hx hb dX10_store_1 rfl (lv_at hl 1 rfl) ?_
  refine lv_iconst (v := 0) hx hb dX10_store_2 (by decide) ?_
  refine lv_iconst (v := 1) hx hb dX10_store_3 (by decide) ?_
  refine z_rdv (va_runS (As := [.int x, .int 0, .int 1]) (rest := [.ref h0]) ⟨hx, hb, hml, hown, hts⟩ (c_X10_in l E x 0 1) (va_cwS 3 hts gX10_store_X10_in rfl rfl rfl (by decide +kernel) ⟨Nat.le_of_ble_eq_true rfl, Nat.le_of_ble_eq_true rfl⟩) ⟨zPr.blind, z_prer hK zP_nil⟩ rfl rfl hl.1 rfl (lv_room (Nat.le_of_ble_eq_true rfl)) dX10_store_4 ⟨Nat.le_of_ble_eq_true rfl, Nat.le_of_ble_eq_true rfl⟩) ?_
  refine W.eq (g2 := F0 Mi 7 ls [.int (m_in x 0 1), .ref h0]) rfl ?_
  refine lv_if_eq (tgt := 14) hx hb dX10_store_7 (by decide) (fun h9 => absurd h9 ((by rw [hok]; decide))) (fun _ => ?_)
  refine lv_iconst (v := 0) hx hb dX10_store_10 (by decide) ?_
  refine lv_goto (tgt := 15) hx hb dX10_store_11 (by decide) ?_
  have hPc : va_P E.1 vwCl ([[(h0, .inr (9, [.int th, .ref k1, .int sd, .ref k2, .ref k3, .int ln, .int at0, .int pt, .int mi, .int nu, .long ha]))]] : List va_W).flatten H := zf_sub hP [0] rfl
  have hDc : va_D A ([[(h0, .inr (9, [.int th, .ref k1, .int sd, .ref k2, .ref k3, .int ln, .int at0, .int pt, .int mi, .int nu, .long ha]))]] : List va_W).flatten := zf_subD hD [0] (by decide) rfl
  refine z_mut (Sc := [[(h0, .inr (9, [.int th, .ref k1, .int sd, .ref k2, .ref k3, .int ln, .int at0, .int pt, .int mi, .int nu, .long ha]))]]) (Sr := [[(k1, .inl (E.2 0, 1160, .inl sv))], [(k2, .inl (E.2 1, 2, .inl fl))]]) (W1 := [[(h0, .inr (9, [.int 0, .ref k1, .int sd, .ref k2, .ref k3, .int ln, .int at0, .int pt, .int mi, .int nu, .long ha]))]]) (va_runV (As := [.int 0]) (rest := []) ⟨hx, hb, hml, hown, hts⟩ (c_X10_holds l E h0 k1 k2 k3 th sd ln at0 pt mi nu ha 0 H.size) (cwV 1 hts gX10_store_X10_holds rfl rfl rfl (by decide +kernel) ⟨Nat.le_of_ble_eq_true rfl, Nat.le_of_ble_eq_true rfl⟩) ⟨zP.blind, va_recv hK.1 hPc (ci := 9) (q0 := 0) rfl rfl, z_pre hK hPc hDc⟩ rfl rfl hl.1 rfl (lv_room (Nat.le_of_ble_eq_true rfl)) dX10_store_15 ⟨Nat.le_of_ble_eq_true rfl, Nat.le_of_ble_eq_true rfl⟩) hP hD hS hA [0] [1, 2] rfl rfl (by decide) (by decide) (fun H locs hP hD hS => ?_)
  have hP : va_P E.1 vwCl ([[(k1, .inl (E.2 0, 1160, .inl sv))], [(k2, .inl (E.2 1, 2, .inl fl))], [(h0, .inr (9, [.int 0, .ref k1, .int sd, .ref k2, .ref k3, .int ln, .int at0, .int pt, .int mi, .int nu, .long ha]))]] : List va_W).flatten H := hP
  have hD : va_D A ([[(k1, .inl (E.2 0, 1160, .inl sv))], [(k2, .inl (E.2 1, 2, .inl fl))], [(h0, .inr (9, [.int 0, .ref k1, .int sd, .ref k2, .ref k3, .int ln, .int at0, .int pt, .int mi, .int nu, .long ha]))]] : List va_W).flatten := hD
  refine W.eq (g2 := F0 Mi 18 ls [.int (m_z01 0)]) rfl ?_
  refine lv_if_ne (tgt := 23) hx hb dX10_store_18 (by decide) (fun _ => ?_) (fun h9 => absurd h9 ((by decide)))
  refine lv_aload_n hx hb dX10_store_23 rfl (lv_at hl 0 rfl) ?_
  refine lv_iconst (v := 0) hx hb dX10_store_24 (by decide) ?_
  refine lv_bipush (v := 7) hx hb dX10_store_25 (by decide) ?_
  refine lv_iload_n hx hb dX10_store_27 rfl (lv_at hl 1 rfl) ?_
  refine lv_iadd hx hb dX10_store_28 ?_
  have hPc : va_P E.1 vwCl ([[(h0, .inr (9, [.int 0, .ref k1, .int sd, .ref k2, .ref k3, .int ln, .int at0, .int pt, .int mi, .int nu, .long ha]))], [(k1, .inl (E.2 0, 1160, .inl sv))]] : List va_W).flatten H := zf_sub hP [2, 0] rfl
  have hDc : va_D A ([[(h0, .inr (9, [.int 0, .ref k1, .int sd, .ref k2, .ref k3, .int ln, .int at0, .int pt, .int mi, .int nu, .long ha]))], [(k1, .inl (E.2 0, 1160, .inl sv))]] : List va_W).flatten := zf_subD hD [2, 0] (by decide) rfl
  refine z_mut (Sc := [[(h0, .inr (9, [.int 0, .ref k1, .int sd, .ref k2, .ref k3, .int ln, .int at0, .int pt, .int mi, .int nu, .long ha]))], [(k1, .inl (E.2 0, 1160, .inl sv))]]) (Sr := [[(k2, .inl (E.2 1, 2, .inl fl))]]) (W1 := [[(h0, .inr (9, [.int 0, .ref k1, .int sd, .ref k2, .ref k3, .int ln, .int at0, .int pt, .int mi, .int nu, .long ha]))], [(k1, .inl (E.2 0, 1160, .inl (m_cpA sv 0 (7 + k) 116)))]]) (va_runV (As := [.int 0, .int (7 + x)]) (rest := []) ⟨hx, hb, hml, hown, hts⟩ (c_X10_copies l E h0 k1 k2 k3 0 sd ln at0 pt mi nu ha 0 (7 + x) 0 (7 + k) rfl (z_addI rfl hx1) (by omega) (by omega) sv H.size) (cwV 2 hts gX10_store_X10_copies rfl rfl rfl (by decide +kernel) ⟨Nat.le_of_ble_eq_true rfl, Nat.le_of_ble_eq_true rfl⟩) ⟨zP.blind, va_recv hK.1 hPc (ci := 9) (q0 := 0) rfl rfl, z_pre hK hPc hDc⟩ rfl rfl hl.1 rfl (lv_room (Nat.le_of_ble_eq_true rfl)) dX10_store_29 ⟨Nat.le_of_ble_eq_true rfl, Nat.le_of_ble_eq_true rfl⟩) hP hD hS hA [2, 0] [1] rfl rfl (by decide) (by decide) (fun H locs hP hD hS => ?_)
  have hP : va_P E.1 vwCl ([[(k2, .inl (E.2 1, 2, .inl fl))], [(h0, .inr (9, [.int 0, .ref k1, .int sd, .ref k2, .ref k3, .int ln, .int at0, .int pt, .int mi, .int nu, .long ha]))], [(k1, .inl (E.2 0, 1160, .inl (m_cpA sv 0 (7 + k) 116)))]] : List va_W).flatten H := hP
  have hD : va_D A ([[(k2, .inl (E.2 1, 2, .inl fl))], [(h0, .inr (9, [.int 0, .ref k1, .int sd, .ref k2, .ref k3, .int ln, .int at0, .int pt, .int mi, .int nu, .long ha]))], [(k1, .inl (E.2 0, 1160, .inl (m_cpA sv 0 (7 + k) 116)))]] : List va_W).flatten := hD
  refine W.eq (g2 := F0 Mi 32 ls []) rfl ?_
  refine lv_aload_n hx hb dX10_store_32 rfl (lv_at hl 0 rfl) ?_
  refine va_get (D := E.1) (ci := 9) (v := .ref k2) (C := RX10) (T := TX10) (N := 11) hx hb hts hi_X10 hown hK.1 hP 1 rfl rfl 3 (by decide) (hts (.fieldLink RX10 13 "AltimeterWatchModel" "isFilled" "[Z") (by decide +kernel)) (fun _ h9 => h9) rfl dX10_store_33 ?_
  refine lv_iload_n hx hb dX10_store_36 rfl (lv_at hl 1 rfl) ?_
  refine lv_iconst (v := 1) hx hb dX10_store_37 (by decide) ?_
  refine z_zast (k := k) hx hb hK.1 hP hD hS 0 rfl hx1 (by omega) (by decide) (by decide) dX10_store_38 (fun H locs hP hD hS => ?_)
  have hP : va_P E.1 vwCl ([[(k2, .inl (E.2 1, 2, .inl (upd fl k 1)))], [(h0, .inr (9, [.int 0, .ref k1, .int sd, .ref k2, .ref k3, .int ln, .int at0, .int pt, .int mi, .int nu, .long ha]))], [(k1, .inl (E.2 0, 1160, .inl (m_cpA sv 0 (7 + k) 116)))]] : List va_W).flatten H := hP
  have hD : va_D A ([[(k2, .inl (E.2 1, 2, .inl (upd fl k 1)))], [(h0, .inr (9, [.int 0, .ref k1, .int sd, .ref k2, .ref k3, .int ln, .int at0, .int pt, .int mi, .int nu, .long ha]))], [(k1, .inl (E.2 0, 1160, .inl (m_cpA sv 0 (7 + k) 116)))]] : List va_W).flatten := hD
  refine lv_aload_n hx hb dX10_store_39 rfl (lv_at hl 0 rfl) ?_
  refine lv_iconst (v := 0) hx hb dX10_store_40 (by decide) ?_
  have hPc : va_P E.1 vwCl ([[(h0, .inr (9, [.int 0, .ref k1, .int sd, .ref k2, .ref k3, .int ln, .int at0, .int pt, .int mi, .int nu, .long ha]))], [(k1, .inl (E.2 0, 1160, .inl (m_cpA sv 0 (7 + k) 116)))]] : List va_W).flatten H := zf_sub hP [1, 2] rfl
  refine z_rdv (va_runV (As := [.int 0]) (rest := []) ⟨hx, hb, hml, hown, hts⟩ (c_X10_altitudeAt l E h0 k1 k2 k3 0 sd ln at0 pt mi nu ha 0 0 rfl (by omega) (m_cpA sv 0 (7 + k) 116)) (cwV 1 hts gX10_store_X10_altitudeAt rfl rfl rfl (by decide +kernel) ⟨Nat.le_of_ble_eq_true rfl, Nat.le_of_ble_eq_true rfl⟩) ⟨zPr.blind, va_recv hK.1 hPc (ci := 9) (q0 := 0) rfl rfl, z_prer hK hPc⟩ rfl rfl hl.1 rfl (lv_room (Nat.le_of_ble_eq_true rfl)) dX10_store_41 ⟨Nat.le_of_ble_eq_true rfl, Nat.le_of_ble_eq_true rfl⟩) ?_
  refine W.eq (g2 := F0 Mi 44 ls [.int (m_std ((m_cpA sv 0 (7 + k) 116) (0 + 0)) - m_std ((m_cpA sv 0 (7 + k) 116) (0 + 1)))]) rfl ?_
  have hP : va_P E.1 vwCl ([[(h0, .inr (9, [.int 0, .ref k1, .int sd, .ref k2, .ref k3, .int ln, .int at0, .int pt, .int mi, .int nu, .long ha]))], [(k1, .inl (E.2 0, 1160, .inl (m_cpA sv 0 (7 + k) 116)))], [(k2, .inl (E.2 1, 2, .inl (upd fl k 1)))]] : List va_W).flatten H := zf_sub hP [1, 2, 0] rfl
  have hD : va_D A ([[(h0, .inr (9, [.int 0, .ref k1, .int sd, .ref k2, .ref k3, .int ln, .int at0, .int pt, .int mi, .int nu, .long ha]))], [(k1, .inl (E.2 0, 1160, .inl (m_cpA sv 0 (7 + k) 116)))], [(k2, .inl (E.2 1, 2, .inl (upd fl k 1)))]] : List va_W).flatten := zf_subD hD [1, 2, 0] (by decide) rfl
  exact W.iret (v := (m_std ((m_cpA sv 0 (7 + k) 116) (0 + 0)) - m_std ((m_cpA sv 0 (7 + k) 116) (0 + 1)))) hx hb hr (z_end hP hD hS rfl) hS.2.2 dX10_store_44 hlocks

set_option maxHeartbeats 4000000 in
set_option maxRecDepth 100000 in
theorem c_X10_recall_n1 (l : Launch) (E : zE) (h0 k1 k2 k3 : Nat) (th sd ln at0 pt mi nu : Int32) (ha : Int64) (sv : Nat → Int32) (fl : Nat → Int32) (x : Int32) (hok : m_in x 0 1 = 0) : zM l yX10_recall wsX10_recall ({ frames := 1, cells := 0, slots := 0, locals := 22 }) E [.ref h0, .int x] ([[(h0, .inr (9, [.int th, .ref k1, .int sd, .ref k2, .ref k3, .int ln, .int at0, .int pt, .int mi, .int nu, .long ha]))], [(k1, .inl (E.2 0, 1160, .inl sv))], [(k2, .inl (E.2 1, 2, .inl fl))]] : List va_W).flatten (some (.int 0)) ([[(h0, .inr (9, [.int 1, .ref k1, .int sd, .ref k2, .ref k3, .int ln, .int at0, .int pt, .int mi, .int nu, .long ha]))], [(k1, .inl (E.2 0, 1160, .inl sv))], [(k2, .inl (E.2 1, 2, .inl fl))]] : List va_W).flatten 0 0 := by
  refine z_start (cc := cX10_recall) (maxL := 2) (ret := (some .int)) (by decide) rfl (Nat.le_of_ble_eq_true rfl) ?_
  intro Pg En s Mi below meth Cd A hx hb hr hts hown hlocks hin hml hA H hH hP hK hD hS ls hl
  have hl : lv_has ls 2 [(0, .ref h0), (1, .int x)] := hl
  refine lv_aload_n hx hb dX10_recall_0 rfl (lv_at hl 0 rfl) ?_
  refine lv_iload_n hx hb dX10_recall_1 rfl (lv_at hl 1 rfl) ?_
  refine lv_iconst (v := 0) hx hb dX10_recall_2 (by decide) ?_
  refine lv_iconst (v := 1) hx hb dX10_recall_3 (by decide) ?_
  refine z_rdv (va_runS (As := [.int x, .int 0, .int 1]) (rest := [.ref h0]) ⟨hx, hb, hml, hown, hts⟩ (c_X10_in l E x 0 1) (va_cwS 3 hts gX10_recall_X10_in rfl rfl rfl (by decide +kernel) ⟨Nat.le_of_ble_eq_true rfl, Nat.le_of_ble_eq_true rfl⟩) ⟨zPr.blind, z_prer hK zP_nil⟩ rfl rfl hl.1 rfl (lv_room (Nat.le_of_ble_eq_true rfl)) dX10_recall_4 ⟨Nat.le_of_ble_eq_true rfl, Nat.le_of_ble_eq_true rfl⟩) ?_
  refine W.eq (g2 := F0 Mi 7 ls [.int (m_in x 0 1), .ref h0]) rfl ?_
  refine lv_if_ne (tgt := 14) hx hb dX10_recall_7 (by decide) (fun h9 => absurd h9 ((fun h9 => h9 hok))) (fun _ => ?_)
  refine lv_iconst (v := 1) hx hb dX10_recall_10 (by decide) ?_
  refine lv_goto (tgt := 28) hx hb dX10_recall_11 (by decide) ?_
  have hPc : va_P E.1 vwCl ([[(h0, .inr (9, [.int th, .ref k1, .int sd, .ref k2, .ref k3, .int ln, .int at0, .int pt, .int mi, .int nu, .long ha]))]] : List va_W).flatten H := zf_sub hP [0] rfl
  have hDc : va_D A ([[(h0, .inr (9, [.int th, .ref k1, .int sd, .ref k2, .ref k3, .int ln, .int at0, .int pt, .int mi, .int nu, .long ha]))]] : List va_W).flatten := zf_subD hD [0] (by decide) rfl
  refine z_mut (Sc := [[(h0, .inr (9, [.int th, .ref k1, .int sd, .ref k2, .ref k3, .int ln, .int at0, .int pt, .int mi, .int nu, .long ha]))]]) (Sr := [[(k1, .inl (E.2 0, 1160, .inl sv))], [(k2, .inl (E.2 1, 2, .inl fl))]]) (W1 := [[(h0, .inr (9, [.int 1, .ref k1, .int sd, .ref k2, .ref k3, .int ln, .int at0, .int pt, .int mi, .int nu, .long ha]))]]) (va_runV (As := [.int 1]) (rest := []) ⟨hx, hb, hml, hown, hts⟩ (c_X10_holds l E h0 k1 k2 k3 th sd ln at0 pt mi nu ha 1 H.size) (cwV 1 hts gX10_recall_X10_holds rfl rfl rfl (by decide +kernel) ⟨Nat.le_of_ble_eq_true rfl, Nat.le_of_ble_eq_true rfl⟩) ⟨zP.blind, va_recv hK.1 hPc (ci := 9) (q0 := 0) rfl rfl, z_pre hK hPc hDc⟩ rfl rfl hl.1 rfl (lv_room (Nat.le_of_ble_eq_true rfl)) dX10_recall_28 ⟨Nat.le_of_ble_eq_true rfl, Nat.le_of_ble_eq_true rfl⟩) hP hD hS hA [0] [1, 2] rfl rfl (by decide) (by decide) (fun H locs hP hD hS => ?_)
  have hP : va_P E.1 vwCl ([[(k1, .inl (E.2 0, 1160, .inl sv))], [(k2, .inl (E.2 1, 2, .inl fl))], [(h0, .inr (9, [.int 1, .ref k1, .int sd, .ref k2, .ref k3, .int ln, .int at0, .int pt, .int mi, .int nu, .long ha]))]] : List va_W).flatten H := hP
  have hD : va_D A ([[(k1, .inl (E.2 0, 1160, .inl sv))], [(k2, .inl (E.2 1, 2, .inl fl))], [(h0, .inr (9, [.int 1, .ref k1, .int sd, .ref k2, .ref k3, .int ln, .int at0, .int pt, .int mi, .int nu, .long ha]))]] : List va_W).flatten := hD
  refine W.eq (g2 := F0 Mi 31 ls [.int (m_z01 1)]) rfl ?_
  refine lv_if_ne (tgt := 36) hx hb dX10_recall_31 (by decide) (fun h9 => absurd h9 ((by decide))) (fun _ => ?_)
  refine lv_iconst (v := 0) hx hb dX10_recall_34 (by decide) ?_
  have hP : va_P E.1 vwCl ([[(h0, .inr (9, [.int 1, .ref k1, .int sd, .ref k2, .ref k3, .int ln, .int at0, .int pt, .int mi, .int nu, .long ha]))], [(k1, .inl (E.2 0, 1160, .inl sv))], [(k2, .inl (E.2 1, 2, .inl fl))]] : List va_W).flatten H := zf_sub hP [2, 0, 1] rfl
  have hD : va_D A ([[(h0, .inr (9, [.int 1, .ref k1, .int sd, .ref k2, .ref k3, .int ln, .int at0, .int pt, .int mi, .int nu, .long ha]))], [(k1, .inl (E.2 0, 1160, .inl sv))], [(k2, .inl (E.2 1, 2, .inl fl))]] : List va_W).flatten := zf_subD hD [2, 0, 1] (by decide) rfl
  exact W.iret (v := 0) hx hb hr (z_end hP hD hS rfl) hS.2.2 dX10_recall_35 hlocks

set_option maxHeartbeats 4000000 in
set_option maxRecDepth 100000 in
theorem c_X10_recall_n2 (l : Launch) (E : zE) (h0 k1 k2 k3 : Nat) (th sd ln at0 pt mi nu : Int32) (ha : Int64) (sv : Nat → Int32) (fl : Nat → Int32) (x : Int32) (k : Nat) (hx1 : x = nI k) (hk : k < 2) (hok : m_in x 0 1 = 1) (hf : fl k = 0) : zM l yX10_recall wsX10_recall ({ frames := 1, cells := 0, slots := 0, locals := 22 }) E [.ref h0, .int x] ([[(h0, .inr (9, [.int th, .ref k1, .int sd, .ref k2, .ref k3, .int ln, .int at0, .int pt, .int mi, .int nu, .long ha]))], [(k1, .inl (E.2 0, 1160, .inl sv))], [(k2, .inl (E.2 1, 2, .inl fl))]] : List va_W).flatten (some (.int 0)) ([[(h0, .inr (9, [.int 2, .ref k1, .int sd, .ref k2, .ref k3, .int ln, .int at0, .int pt, .int mi, .int nu, .long ha]))], [(k1, .inl (E.2 0, 1160, .inl sv))], [(k2, .inl (E.2 1, 2, .inl fl))]] : List va_W).flatten 0 0 := by
  refine z_start (cc := cX10_recall) (maxL := 2) (ret := (some .int)) (by decide) rfl (Nat.le_of_ble_eq_true rfl) ?_
  intro Pg En s Mi below meth Cd A hx hb hr hts hown hlocks hin hml hA H hH hP hK hD hS ls hl
  have hl : lv_has ls 2 [(0, .ref h0), (1, .int x)] := hl
  have hi_X10 : ∀ w ∈ wsX100, w ∈ wsX10_recall := by decide +kernel
  refine lv_aload_n hx hb dX10_recall_0 rfl (lv_at hl 0 rfl) ?_
  refine lv_iload_n hx hb dX10_recall_1 rfl (lv_at hl 1 rfl) ?_
  refine lv_iconst (v := 0) hx hb dX10_recall_2 (by decide) ?_
  refine lv_iconst (v := 1) hx hb dX10_recall_3 (by decide) ?_
  refine z_rdv (va_runS (As := [.int x, .int 0, .int 1]) (rest := [.ref h0]) ⟨hx, hb, hml, hown, hts⟩ (c_X10_in l E x 0 1) (va_cwS 3 hts gX10_recall_X10_in rfl rfl rfl (by decide +kernel) ⟨Nat.le_of_ble_eq_true rfl, Nat.le_of_ble_eq_true rfl⟩) ⟨zPr.blind, z_prer hK zP_nil⟩ rfl rfl hl.1 rfl (lv_room (Nat.le_of_ble_eq_true rfl)) dX10_recall_4 ⟨Nat.le_of_ble_eq_true rfl, Nat.le_of_ble_eq_true rfl⟩) ?_
  refine W.eq (g2 := F0 Mi 7 ls [.int (m_in x 0 1), .ref h0]) rfl ?_
  refine lv_if_ne (tgt := 14) hx hb dX10_recall_7 (by decide) (fun _ => ?_) (fun h9 => absurd h9 ((by rw [hok]; decide)))
  refine lv_aload_n hx hb dX10_recall_14 rfl (lv_at hl 0 rfl) ?_
  refine va_get (D := E.1) (ci := 9) (v := .ref k2) (C := RX10) (T := TX10) (N := 11) hx hb hts hi_X10 hown hK.1 hP 0 rfl rfl 3 (by decide) (hts (.fieldLink RX10 13 "AltimeterWatchModel" "isFilled" "[Z") (by decide +kernel)) (fun _ h9 => h9) rfl dX10_recall_15 ?_
  refine lv_iload_n hx hb dX10_recall_18 rfl (lv_at hl 1 rfl) ?_
  refine z_zald (k := k) hx hb hK.1 hP 2 rfl hx1 (by omega) (by decide) dX10_recall_19 ?_
  refine lv_if_ne (tgt := 27) hx hb dX10_recall_20 (by decide) (fun h9 => absurd h9 ((fun h9 => h9 hf))) (fun _ => ?_)
  refine lv_iconst (v := 2) hx hb dX10_recall_23 (by decide) ?_
  refine lv_goto (tgt := 28) hx hb dX10_recall_24 (by decide) ?_
  have hPc : va_P E.1 vwCl ([[(h0, .inr (9, [.int th, .ref k1, .int sd, .ref k2, .ref k3, .int ln, .int at0, .int pt, .int mi, .int nu, .long ha]))]] : List va_W).flatten H := zf_sub hP [0] rfl
  have hDc : va_D A ([[(h0, .inr (9, [.int th, .ref k1, .int sd, .ref k2, .ref k3, .int ln, .int at0, .int pt, .int mi, .int nu, .long ha]))]] : List va_W).flatten := zf_subD hD [0] (by decide) rfl
  refine z_mut (Sc := [[(h0, .inr (9, [.int th, .ref k1, .int sd, .ref k2, .ref k3, .int ln, .int at0, .int pt, .int mi, .int nu, .long ha]))]]) (Sr := [[(k1, .inl (E.2 0, 1160, .inl sv))], [(k2, .inl (E.2 1, 2, .inl fl))]]) (W1 := [[(h0, .inr (9, [.int 2, .ref k1, .int sd, .ref k2, .ref k3, .int ln, .int at0, .int pt, .int mi, .int nu, .long ha]))]]) (va_runV (As := [.int 2]) (rest := []) ⟨hx, hb, hml, hown, hts⟩ (c_X10_holds l E h0 k1 k2 k3 th sd ln at0 pt mi nu ha 2 H.size) (cwV 1 hts gX10_recall_X10_holds rfl rfl rfl (by decide +kernel) ⟨Nat.le_of_ble_eq_true rfl, Nat.le_of_ble_eq_true rfl⟩) ⟨zP.blind, va_recv hK.1 hPc (ci := 9) (q0 := 0) rfl rfl, z_pre hK hPc hDc⟩ rfl rfl hl.1 rfl (lv_room (Nat.le_of_ble_eq_true rfl)) dX10_recall_28 ⟨Nat.le_of_ble_eq_true rfl, Nat.le_of_ble_eq_true rfl⟩) hP hD hS hA [0] [1, 2] rfl rfl (by decide) (by decide) (fun H locs hP hD hS => ?_)
  have hP : va_P E.1 vwCl ([[(k1, .inl (E.2 0, 1160, .inl sv))], [(k2, .inl (E.2 1, 2, .inl fl))], [(h0, .inr (9, [.int 2, .ref k1, .int sd, .ref k2, .ref k3, .int ln, .int at0, .int pt, .int mi, .int nu, .long ha]))]] : List va_W).flatten H := hP
  have hD : va_D A ([[(k1, .inl (E.2 0, 1160, .inl sv))], [(k2, .inl (E.2 1, 2, .inl fl))], [(h0, .inr (9, [.int 2, .ref k1, .int sd, .ref k2, .ref k3, .int ln, .int at0, .int pt, .int mi, .int nu, .long ha]))]] : List va_W).flatten := hD
  refine W.eq (g2 := F0 Mi 31 ls [.int (m_z01 2)]) rfl ?_
  refine lv_if_ne (tgt := 36) hx hb dX10_recall_31 (by decide) (fun h9 => absurd h9 ((by decide))) (fun _ => ?_)
  refine lv_iconst (v := 0) hx hb dX10_recall_34 (by decide) ?_
  have hP : va_P E.1 vwCl ([[(h0, .inr (9, [.int 2, .ref k1, .int sd, .ref k2, .ref k3, .int ln, .int at0, .int pt, .int mi, .int nu, .long ha]))], [(k1, .inl (E.2 0, 1160, .inl sv))], [(k2, .inl (E.2 1, 2, .inl fl))]] : List va_W).flatten H := zf_sub hP [2, 0, 1] rfl
  have hD : va_D A ([[(h0, .inr (9, [.int 2, .ref k1, .int sd, .ref k2, .ref k3, .int ln, .int at0, .int pt, .int mi, .int nu, .long ha]))], [(k1, .inl (E.2 0, 1160, .inl sv))], [(k2, .inl (E.2 1, 2, .inl fl))]] : List va_W).flatten := zf_subD hD [2, 0, 1] (by decide) rfl
  exact W.iret (v := 0) hx hb hr (z_end hP hD hS rfl) hS.2.2 dX10_recall_35 hlocks

set_option maxHeartbeats 4000000 in
set_option maxRecDepth 100000 in
theorem c_X10_recall_y (l : Launch) (E : zE) (h0 k1 k2 k3 : Nat) (th sd ln at0 pt mi nu : Int32) (ha : Int64) (sv : Nat → Int32) (fl : Nat → Int32) (x : Int32) (k : Nat) (hx1 : x = nI k) (hk : k < 2) (hok : m_in x 0 1 = 1) (hf : ¬ fl k = 0) (d : Nat) (hsd : sd = nI d) (hd : d ≤ 6) : zM l yX10_recall wsX10_recall ({ frames := 2, cells := 0, slots := 0, locals := 44 }) E [.ref h0, .int x] ([[(h0, .inr (9, [.int th, .ref k1, .int sd, .ref k2, .ref k3, .int ln, .int at0, .int pt, .int mi, .int nu, .long ha]))], [(k1, .inl (E.2 0, 1160, .inl sv))], [(k2, .inl (E.2 1, 2, .inl fl))]] : List va_W).flatten (some (.int (m_std ((m_cpA (m_svA sv d) (7 + k) 0 116) (0 + 0)) - m_std ((m_cpA (m_svA sv d) (7 + k) 0 116) (0 + 1))))) ([[(h0, .inr (9, [.int 0, .ref k1, .int (nI (m_svC d)), .ref k2, .ref k3, .int ln, .int at0, .int pt, .int mi, .int nu, .long ha]))], [(k1, .inl (E.2 0, 1160, .inl (m_cpA (m_svA sv d) (7 + k) 0 116)))], [(k2, .inl (E.2 1, 2, .inl fl))]] : List va_W).flatten 0 0 := by
  refine z_start (cc := cX10_recall) (maxL := 2) (ret := (some .int)) (by decide) rfl (Nat.le_of_ble_eq_true rfl) ?_
  intro Pg En s Mi below meth Cd A hx hb hr hts hown hlocks hin hml hA H hH hP hK hD hS ls hl
  have hl : lv_has ls 2 [(0, .ref h0), (1, .int x)] := hl
  have hi_X10 : ∀ w ∈ wsX100, w ∈ wsX10_recall := by decide +kernel
  refine lv_aload_n hx hb dX10_recall_0 rfl (lv_at hl 0 rfl) ?_
  refine lv_iload_n hx hb dX10_recall_1 rfl (lv_at hl 1 rfl) ?_
  refine lv_iconst (v := 0) hx hb dX10_recall_2 (by decide) ?_
  refine lv_iconst (v := 1) hx hb dX10_recall_3 (by decide) ?_
  refine z_rdv (va_runS (As := [.int x, .int 0, .int 1]) (rest := [.ref h0]) ⟨hx, hb, hml, hown, hts⟩ (c_X10_in l E x 0 1) (va_cwS 3 hts gX10_recall_X10_in rfl rfl rfl (by decide +kernel) ⟨Nat.le_of_ble_eq_true rfl, Nat.le_of_ble_eq_true rfl⟩) ⟨zPr.blind, z_prer hK zP_nil⟩ rfl rfl hl.1 rfl (lv_room (Nat.le_of_ble_eq_true rfl)) dX10_recall_4 ⟨Nat.le_of_ble_eq_true rfl, Nat.le_of_ble_eq_true rfl⟩) ?_
  refine W.eq (g2 := F0 Mi 7 ls [.int (m_in x 0 1), .ref h0]) rfl ?_
  refine lv_if_ne (tgt := 14) hx hb dX10_recall_7 (by decide) (fun _ => ?_) (fun h9 => absurd h9 ((by rw [hok]; decide)))
  refine lv_aload_n hx hb dX10_recall_14 rfl (lv_at hl 0 rfl) ?_
  refine va_get (D := E.1) (ci := 9) (v := .ref k2) (C := RX10) (T := TX10) (N := 11) hx hb hts hi_X10 hown hK.1 hP 0 rfl rfl 3 (by decide) (hts (.fieldLink RX10 13 "AltimeterWatchModel" "isFilled" "[Z") (by decide +kernel)) (fun _ h9 => h9) rfl dX10_recall_15 ?_
  refine lv_iload_n hx hb dX10_recall_18 rfl (lv_at hl 1 rfl) ?_
  refine z_zald (k := k) hx hb hK.1 hP 2 rfl hx1 (by omega) (by decide) dX10_recall_19 ?_
  refine lv_if_ne (tgt := 27) hx hb dX10_recall_20 (by decide) (fun _ => ?_) (fun h9 => absurd h9 (hf))
  refine lv_iconst (v := 0) hx hb dX10_recall_27 (by decide) ?_
  have hPc : va_P E.1 vwCl ([[(h0, .inr (9, [.int th, .ref k1, .int sd, .ref k2, .ref k3, .int ln, .int at0, .int pt, .int mi, .int nu, .long ha]))]] : List va_W).flatten H := zf_sub hP [0] rfl
  have hDc : va_D A ([[(h0, .inr (9, [.int th, .ref k1, .int sd, .ref k2, .ref k3, .int ln, .int at0, .int pt, .int mi, .int nu, .long ha]))]] : List va_W).flatten := zf_subD hD [0] (by decide) rfl
  refine z_mut (Sc := [[(h0, .inr (9, [.int th, .ref k1, .int sd, .ref k2, .ref k3, .int ln, .int at0, .int pt, .int mi, .int nu, .long ha]))]]) (Sr := [[(k1, .inl (E.2 0, 1160, .inl sv))], [(k2, .inl (E.2 1, 2, .inl fl))]]) (W1 := [[(h0, .inr (9, [.int 0, .ref k1, .int sd, .ref k2, .ref k3, .int ln, .int at0, .int pt, .int mi, .int nu, .long ha]))]]) (va_runV (As := [.int 0]) (rest := []) ⟨hx, hb, hml, hown, hts⟩ (c_X10_holds l E h0 k1 k2 k3 th sd ln at0 pt mi nu ha 0 H.size) (cwV 1 hts gX10_recall_X10_holds rfl rfl rfl (by decide +kernel) ⟨Nat.le_of_ble_eq_true rfl, Nat.le_of_ble_eq_true rfl⟩) ⟨zP.blind, va_recv hK.1 hPc (ci := 9) (q0 := 0) rfl rfl, z_pre hK hPc hDc⟩ rfl rfl hl.1 rfl (lv_room (Nat.le_of_ble_eq_true rfl)) dX10_recall_28 ⟨Nat.le_of_ble_eq_true rfl, Nat.le_of_ble_eq_true rfl⟩) hP hD hS hA [0] [1, 2] rfl rfl (by decide) (by decide) (fun H locs hP hD hS => ?_)
  have hP : va_P E.1 vwCl ([[(k1, .inl (E.2 0, 1160, .inl sv))], [(k2, .inl (E.2 1, 2, .inl fl))], [(h0, .inr (9, [.int 0, .ref k1, .int sd, .ref k2, .ref k3, .int ln, .int at0, .int pt, .int mi, .int nu, .long ha]))]] : List va_W).flatten H := hP
  have hD : va_D A ([[(k1, .inl (E.2 0, 1160, .inl sv))], [(k2, .inl (E.2 1, 2, .inl fl))], [(h0, .inr (9, [.int 0, .ref k1, .int sd, .ref k2, .ref k3, .int ln, .int at0, .int pt, .int mi, .int nu, .long ha]))]] : List va_W).flatten := hD
  refine W.eq (g2 := F0 Mi 31 ls [.int (m_z01 0)]) rfl ?_
  refine lv_if_ne (tgt := 36) hx hb dX10_recall_31 (by decide) (fun _ => ?_) (fun h9 => absurd h9 ((by decide)))
  refine lv_aload_n hx hb dX10_recall_36 rfl (lv_at hl 0 rfl) ?_
  have hPc : va_P E.1 vwCl ([[(h0, .inr (9, [.int 0, .ref k1, .int sd, .ref k2, .ref k3, .int ln, .int at0, .int pt, .int mi, .int nu, .long ha]))], [(k1, .inl (E.2 0, 1160, .inl sv))]] : List va_W).flatten H := zf_sub hP [2, 0] rfl
  have hDc : va_D A ([[(h0, .inr (9, [.int 0, .ref k1, .int sd, .ref k2, .ref k3, .int ln, .int at0, .int pt, .int mi, .int nu, .long ha]))], [(k1, .inl (E.2 0, 1160, .inl sv))]] : List va_W).flatten := zf_subD hD [2, 0] (by decide) rfl
  refine z_mut (Sc := [[(h0, .inr (9, [.int 0, .ref k1, .int sd, .ref k2, .ref k3, .int ln, .int at0, .int pt, .int mi, .int nu, .long ha]))], [(k1, .inl (E.2 0, 1160, .inl sv))]]) (Sr := [[(k2, .inl (E.2 1, 2, .inl fl))]]) (W1 := [[(h0, .inr (9, [.int 0, .ref k1, .int (nI (m_svC d)), .ref k2, .ref k3, .int ln, .int at0, .int pt, .int mi, .int nu, .long ha]))], [(k1, .inl (E.2 0, 1160, .inl (m_svA sv d)))]]) (va_runV (As := []) (rest := []) ⟨hx, hb, hml, hown, hts⟩ (c_X10_save l E h0 k1 k2 k3 0 sd ln at0 pt mi nu ha sv d hsd hd H.size) (cwV 0 hts gX10_recall_X10_save rfl rfl rfl (by decide +kernel) ⟨Nat.le_of_ble_eq_true rfl, Nat.le_of_ble_eq_true rfl⟩) ⟨zP.blind, va_recv hK.1 hPc (ci := 9) (q0 := 0) rfl rfl, z_pre hK hPc hDc⟩ rfl rfl hl.1 rfl (lv_room (Nat.le_of_ble_eq_true rfl)) dX10_recall_37 ⟨Nat.le_of_ble_eq_true rfl, Nat.le_of_ble_eq_true rfl⟩) hP hD hS hA [2, 0] [1] rfl rfl (by decide) (by decide) (fun H locs hP hD hS => ?_)
  have hP : va_P E.1 vwCl ([[(k2, .inl (E.2 1, 2, .inl fl))], [(h0, .inr (9, [.int 0, .ref k1, .int (nI (m_svC d)), .ref k2, .ref k3, .int ln, .int at0, .int pt, .int mi, .int nu, .long ha]))], [(k1, .inl (E.2 0, 1160, .inl (m_svA sv d)))]] : List va_W).flatten H := hP
  have hD : va_D A ([[(k2, .inl (E.2 1, 2, .inl fl))], [(h0, .inr (9, [.int 0, .ref k1, .int (nI (m_svC d)), .ref k2, .ref k3, .int ln, .int at0, .int pt, .int mi, .int nu, .long ha]))], [(k1, .inl (E.2 0, 1160, .inl (m_svA sv d)))]] : List va_W).flatten := hD
  refine W.eq (g2 := F0 Mi 40 ls []) rfl ?_
  refine lv_aload_n hx hb dX10_recall_40 rfl (lv_at hl 0 rfl) ?_
  refine lv_bipush (v := 7) hx hb dX10_recall_41 (by decide) ?_
  refine lv_iload_n hx hb dX10_recall_43 rfl (lv_at hl 1 rfl) ?_
  refine lv_iadd hx hb dX10_recall_44 ?_
  refine lv_iconst (v := 0) hx hb dX10_recall_45 (by decide) ?_
  have hPc : va_P E.1 vwCl ([[(h0, .inr (9, [.int 0, .ref k1, .int (nI (m_svC d)), .ref k2, .ref k3, .int ln, .int at0, .int pt, .int mi, .int nu, .long ha]))], [(k1, .inl (E.2 0, 1160, .inl (m_svA sv d)))]] : List va_W).flatten H := zf_sub hP [1, 2] rfl
  have hDc : va_D A ([[(h0, .inr (9, [.int 0, .ref k1, .int (nI (m_svC d)), .ref k2, .ref k3, .int ln, .int at0, .int pt, .int mi, .int nu, .long ha]))], [(k1, .inl (E.2 0, 1160, .inl (m_svA sv d)))]] : List va_W).flatten := zf_subD hD [1, 2] (by decide) rfl
  refine z_mut (Sc := [[(h0, .inr (9, [.int 0, .ref k1, .int (nI (m_svC d)), .ref k2, .ref k3, .int ln, .int at0, .int pt, .int mi, .int nu, .long ha]))], [(k1, .inl (E.2 0, 1160, .inl (m_svA sv d)))]]) (Sr := [[(k2, .inl (E.2 1, 2, .inl fl))]]) (W1 := [[(h0, .inr (9, [.int 0, .ref k1, .int (nI (m_svC d)), .ref k2, .ref k3, .int ln, .int at0, .int pt, .int mi, .int nu, .long ha]))], [(k1, .inl (E.2 0, 1160, .inl (m_cpA (m_svA sv d) (7 + k) 0 116)))]]) (va_runV (As := [.int (7 + x), .int 0]) (rest := []) ⟨hx, hb, hml, hown, hts⟩ (c_X10_copies l E h0 k1 k2 k3 0 (nI (m_svC d)) ln at0 pt mi nu ha (7 + x) 0 (7 + k) 0 (z_addI rfl hx1) rfl (by omega) (by omega) (m_svA sv d) H.size) (cwV 2 hts gX10_recall_X10_copies rfl rfl rfl (by decide +kernel) ⟨Nat.le_of_ble_eq_true rfl, Nat.le_of_ble_eq_true rfl⟩) ⟨zP.blind, va_recv hK.1 hPc (ci := 9) (q0 := 0) rfl rfl, z_pre hK hPc hDc⟩ rfl rfl hl.1 rfl (lv_room (Nat.le_of_ble_eq_true rfl)) dX10_recall_46 ⟨Nat.le_of_ble_eq_true rfl, Nat.le_of_ble_eq_true rfl⟩) hP hD hS hA [1, 2] [0] rfl rfl (by decide) (by decide) (fun H locs hP hD hS => ?_)
  have hP : va_P E.1 vwCl ([[(k2, .inl (E.2 1, 2, .inl fl))], [(h0, .inr (9, [.int 0, .ref k1, .int (nI (m_svC d)), .ref k2, .ref k3, .int ln, .int at0, .int pt, .int mi, .int nu, .long ha]))], [(k1, .inl (E.2 0, 1160, .inl (m_cpA (m_svA sv d) (7 + k) 0 116)))]] : List va_W).flatten H := hP
  have hD : va_D A ([[(k2, .inl (E.2 1, 2, .inl fl))], [(h0, .inr (9, [.int 0, .ref k1, .int (nI (m_svC d)), .ref k2, .ref k3, .int ln, .int at0, .int pt, .int mi, .int nu, .long ha]))], [(k1, .inl (E.2 0, 1160, .inl (m_cpA (m_svA sv d) (7 + k) 0 116)))]] : List va_W).flatten := hD
  refine W.eq (g2 := F0 Mi 49 ls []) rfl ?_
  refine lv_aload_n hx hb dX10_recall_49 rfl (lv_at hl 0 rfl) ?_
  refine lv_iconst (v := 0) hx hb dX10_recall_50 (by decide) ?_
  have hPc : va_P E.1 vwCl ([[(h0, .inr (9, [.int 0, .ref k1, .int (nI (m_svC d)), .ref k2, .ref k3, .int ln, .int at0, .int pt, .int mi, .int nu, .long ha]))], [(k1, .inl (E.2 0, 1160, .inl (m_cpA (m_svA sv d) (7 + k) 0 116)))]] : List va_W).flatten H := zf_sub hP [1, 2] rfl
  refine z_rdv (va_runV (As := [.int 0]) (rest := []) ⟨hx, hb, hml, hown, hts⟩ (c_X10_altitudeAt l E h0 k1 k2 k3 0 (nI (m_svC d)) ln at0 pt mi nu ha 0 0 rfl (by omega) (m_cpA (m_svA sv d) (7 + k) 0 116)) (cwV 1 hts gX10_recall_X10_altitudeAt rfl rfl rfl (by decide +kernel) ⟨Nat.le_of_ble_eq_true rfl, Nat.le_of_ble_eq_true rfl⟩) ⟨zPr.blind, va_recv hK.1 hPc (ci := 9) (q0 := 0) rfl rfl, z_prer hK hPc⟩ rfl rfl hl.1 rfl (lv_room (Nat.le_of_ble_eq_true rfl)) dX10_recall_51 ⟨Nat.le_of_ble_eq_true rfl, Nat.le_of_ble_eq_true rfl⟩) ?_
  refine W.eq (g2 := F0 Mi 54 ls [.int (m_std ((m_cpA (m_svA sv d) (7 + k) 0 116) (0 + 0)) - m_std ((m_cpA (m_svA sv d) (7 + k) 0 116) (0 + 1)))]) rfl ?_
  have hP : va_P E.1 vwCl ([[(h0, .inr (9, [.int 0, .ref k1, .int (nI (m_svC d)), .ref k2, .ref k3, .int ln, .int at0, .int pt, .int mi, .int nu, .long ha]))], [(k1, .inl (E.2 0, 1160, .inl (m_cpA (m_svA sv d) (7 + k) 0 116)))], [(k2, .inl (E.2 1, 2, .inl fl))]] : List va_W).flatten H := zf_sub hP [1, 2, 0] rfl
  have hD : va_D A ([[(h0, .inr (9, [.int 0, .ref k1, .int (nI (m_svC d)), .ref k2, .ref k3, .int ln, .int at0, .int pt, .int mi, .int nu, .long ha]))], [(k1, .inl (E.2 0, 1160, .inl (m_cpA (m_svA sv d) (7 + k) 0 116)))], [(k2, .inl (E.2 1, 2, .inl fl))]] : List va_W).flatten := zf_subD hD [1, 2, 0] (by decide) rfl
  exact W.iret (v := (m_std ((m_cpA (m_svA sv d) (7 + k) 0 116) (0 + 0)) - m_std ((m_cpA (m_svA sv d) (7 + k) 0 116) (0 + 1)))) hx hb hr (z_end hP hD hS rfl) hS.2.2 dX10_recall_54 hlocks

def m_uaA (sv : Nat → Int32) (m : Nat) (per : Int32) : Nat → (Nat → Int32) × Nat
  | 0 => (m_cpA sv 0 9 116, m)
  | i + 1 => (m_lgA (upd (m_uaA sv m per i).1 1044 ((m_uaA sv m per i).1 1044 - per)) 1044 (m_uaA sv m per i).2, m_lgC (m_uaA sv m per i).2 + 1)
def m_uaR (sv : Nat → Int32) (m : Nat) (per : Int32) : Nat → Nat → Int32
  | 0, _ => -1
  | f + 1, i => if m_alM (m_uaA sv m per i).1 1044 (m_uaA sv m per i).2 = 0 then (if (m_uaA sv m per i).1 1044 - per < 5000 then -1 else m_uaR sv m per f (i + 1)) else nI i
def m_uaX (sv : Nat → Int32) (m : Nat) (per : Int32) : Nat → Nat → Nat → Int32
  | 0, _ => sv
  | f + 1, i => if m_alM (m_uaA sv m per i).1 1044 (m_uaA sv m per i).2 = 0 then (if (m_uaA sv m per i).1 1044 - per < 5000 then upd (m_uaA sv m per i).1 1044 ((m_uaA sv m per i).1 1044 - per) else m_uaX sv m per f (i + 1)) else (m_uaA sv m per i).1
theorem m_lgA_0 (sv : Nat → Int32) (b m : Nat) : m_lgA sv b m b = sv b := by
  unfold m_lgA
  rw [k_un (by omega), k_un (by omega), k_un (by omega)]
  unfold m_lgT
  split
  · exact m_sh_lo (by omega) _
  · rfl
theorem m_ua_s1 (sv : Nat → Int32) (m : Nat) (per : Int32) (i : Nat) : (m_uaA sv m per (i + 1)).1 = m_lgA (upd (m_uaA sv m per i).1 1044 ((m_uaA sv m per i).1 1044 - per)) 1044 (m_uaA sv m per i).2 := by rw [m_uaA]
theorem m_ua_s2 (sv : Nat → Int32) (m : Nat) (per : Int32) (i : Nat) : (m_uaA sv m per (i + 1)).2 = m_lgC (m_uaA sv m per i).2 + 1 := by rw [m_uaA]
theorem m_ua14 {sv : Nat → Int32} {m : Nat} {per : Int32} (hm : sv 14 = nI m) (hm6 : m ≤ 60) : ∀ i, (m_uaA sv m per i).1 (1044 + 14) = nI (m_uaA sv m per i).2 ∧ (m_uaA sv m per i).2 ≤ 60
  | 0 => by
    have e0 : (m_uaA sv m per 0).1 = m_cpA sv 0 9 116 := by rw [m_uaA]
    have e1 : (m_uaA sv m per 0).2 = m := by rw [m_uaA]
    rw [e0, e1]
    exact ⟨(m_cp9 (j := 14) (by decide)).trans hm, hm6⟩
  | i + 1 => by
    rw [m_ua_s1, m_ua_s2]
    exact ⟨m_lgA_14 _ _ _, m_lgC_le (m_ua14 hm hm6 i).2⟩
theorem m_ua0 {sv : Nat → Int32} {m pq : Nat} {per : Int32} (h : sv 0 = nI pq) : (m_uaA sv m per 0).1 1044 = nI pq := by
  have e0 : (m_uaA sv m per 0).1 = m_cpA sv 0 9 116 := by rw [m_uaA]
  have e2 := m_cp9 (sv := sv) (j := 0) (by decide)
  rw [e0, show (1044 : Nat) = 1044 + 0 from rfl, e2]
  exact h
def m_uaV (sv : Nat → Int32) (m : Nat) (per : Int32) : Int32 := if sv 2 = 0 then -1 else m_uaR sv m per 6001 0
def m_uaW (sv : Nat → Int32) (m : Nat) (per : Int32) : Nat → Int32 := if sv 2 = 0 then sv else m_uaX sv m per 6001 0

set_option maxHeartbeats 4000000 in
set_option maxRecDepth 100000 in
theorem c_X10_untilAlarm (l : Launch) (E : zE) (h0 k1 k2 k3 : Nat) (th sd ln at0 pt mi nu : Int32) (ha : Int64) (sv : Nat → Int32) (m : Nat) (hm : sv 14 = nI m) (hm6 : m ≤ 60) (per : Int32) (pe pq : Nat) (hpe : per = nI pe) (hpe1 : 1 ≤ pe) (hpe2 : pe ≤ 20) (hp0 : sv 0 = nI pq) (hp1 : 5000 ≤ pq) (hp2 : pq ≤ 11000) : zM l yX10_untilAlarm wsX10_untilAlarm ({ frames := 2, cells := 0, slots := 0, locals := 45 }) E [.ref h0, .int per] ([[(h0, .inr (9, [.int th, .ref k1, .int sd, .ref k2, .ref k3, .int ln, .int at0, .int pt, .int mi, .int nu, .long ha]))], [(k1, .inl (E.2 0, 1160, .inl sv))]] : List va_W).flatten (some (.int (m_uaV sv m per))) ([[(h0, .inr (9, [.int th, .ref k1, .int sd, .ref k2, .ref k3, .int ln, .int at0, .int pt, .int mi, .int nu, .long ha]))], [(k1, .inl (E.2 0, 1160, .inl (m_uaW sv m per)))]] : List va_W).flatten 0 0 := by
  refine z_start (cc := cX10_untilAlarm) (maxL := 3) (ret := (some .int)) (by decide) rfl (Nat.le_of_ble_eq_true rfl) ?_
  intro Pg En s Mi below meth Cd A hx hb hr hts hown hlocks hin hml hA H hH hP hK hD hS ls hl
  have hl : lv_has ls 3 [(0, .ref h0), (1, .int per)] := hl
  have hi_X10 : ∀ w ∈ wsX100, w ∈ wsX10_untilAlarm := by decide +kernel
  have LOOP_20 : ∀ (kz : Nat) (i q : Nat) (x : Int32), 6001 < i + kz → q + i ≤ 11000 → 5000 ≤ q → x = nI i → (m_uaA sv m per i).1 1044 = nI q → m_uaR sv m per 6001 0 = m_uaR sv m per (6001 - i) i → m_uaX sv m per 6001 0 = m_uaX sv m per (6001 - i) i → ¬ sv 2 = 0 →  ∀ (H : Heap) (locs : List Loc), va_P E.1 vwCl ([[(h0, .inr (9, [.int th, .ref k1, .int sd, .ref k2, .ref k3, .int ln, .int at0, .int pt, .int mi, .int nu, .long ha]))], [(k1, .inl (E.2 0, 1160, .inl ((m_uaA sv m per i).1)))]] : List va_W).flatten H → va_D A ([[(h0, .inr (9, [.int th, .ref k1, .int sd, .ref k2, .ref k3, .int ln, .int at0, .int pt, .int mi, .int nu, .long ha]))], [(k1, .inl (E.2 0, 1160, .inl ((m_uaA sv m per i).1)))]] : List va_W).flatten → va_S A s.heap H locs → ∀ (ls : Array Slot), lv_has ls 3 [(0, .ref h0), (1, .int per), (2, .int x)] → W Pg l En ({ frames := 2, cells := 0, slots := 0, locals := 45 } : Room) s Mi ([.ref h0, .int per] : List Value).toArray below meth Cd H locs 0 0 (MQ below (zQ (some (.int (m_uaV sv m per))) (zB E ([[(h0, .inr (9, [.int th, .ref k1, .int sd, .ref k2, .ref k3, .int ln, .int at0, .int pt, .int mi, .int nu, .long ha]))], [(k1, .inl (E.2 0, 1160, .inl (m_uaW sv m per)))]] : List va_W).flatten A) A) ([.ref h0, .int per] : List Value).toArray s 0 0 A) (F0 Mi 20 ls []) := by
    intro kz
    induction kz with
    | zero => intro i q x h1 h5 h6 h3 h4 h7 h8 c6; exact absurd h1 (by omega)
    | succ kz ih =>
      intro i q x h1 h5 h6 h3 h4 h7 h8 c6 H locs hP hD hS ls hl
      refine lv_aload_n hx hb dX10_untilAlarm_20 rfl (lv_at hl 0 rfl) ?_
      refine lv_sipush (v := 1044) hx hb dX10_untilAlarm_21 (by decide) ?_
      have hPc : va_P E.1 vwCl ([[(h0, .inr (9, [.int th, .ref k1, .int sd, .ref k2, .ref k3, .int ln, .int at0, .int pt, .int mi, .int nu, .long ha]))], [(k1, .inl (E.2 0, 1160, .inl ((m_uaA sv m per i).1)))]] : List va_W).flatten H := zf_sub hP [0, 1] rfl
      refine z_rdv (va_runV (As := [.int 1044]) (rest := []) ⟨hx, hb, hml, hown, hts⟩ (c_X10_hasAlarm l E h0 k1 k2 k3 th sd ln at0 pt mi nu ha 1044 1044 rfl (by omega) ((m_uaA sv m per i).1) (m_uaA sv m per i).2 (m_ua14 hm hm6 i).1 (m_ua14 hm hm6 i).2) (cwV 1 hts gX10_untilAlarm_X10_hasAlarm rfl rfl rfl (by decide +kernel) ⟨Nat.le_of_ble_eq_true rfl, Nat.le_of_ble_eq_true rfl⟩) ⟨zPr.blind, va_recv hK.1 hPc (ci := 9) (q0 := 0) rfl rfl, z_prer hK hPc⟩ rfl rfl hl.1 rfl (lv_room (Nat.le_of_ble_eq_true rfl)) dX10_untilAlarm_24 ⟨Nat.le_of_ble_eq_true rfl, Nat.le_of_ble_eq_true rfl⟩) ?_
      refine W.eq (g2 := F0 Mi 27 ls [.int (m_alM ((m_uaA sv m per i).1) 1044 (m_uaA sv m per i).2)]) rfl ?_
      refine lv_if_ne (tgt := 71) hx hb dX10_untilAlarm_27 (by decide) (fun c_27 => ?_) (fun c_27 => ?_)
      · refine lv_iload_n hx hb dX10_untilAlarm_71 rfl (lv_at hl 2 rfl) ?_
        refine z_topi (y := m_uaV sv m per) (by rw [m_uaV, if_neg c6, h7, show 6001 - i = 6001 - (i + 1) + 1 by omega, m_uaR, if_neg c_27, h3]) ?_
        have hP : va_P E.1 vwCl ([[(h0, .inr (9, [.int th, .ref k1, .int sd, .ref k2, .ref k3, .int ln, .int at0, .int pt, .int mi, .int nu, .long ha]))], [(k1, .inl (E.2 0, 1160, .inl ((m_uaA sv m per i).1)))]] : List va_W).flatten H := zf_sub hP [0, 1] rfl
        have hD : va_D A ([[(h0, .inr (9, [.int th, .ref k1, .int sd, .ref k2, .ref k3, .int ln, .int at0, .int pt, .int mi, .int nu, .long ha]))], [(k1, .inl (E.2 0, 1160, .inl ((m_uaA sv m per i).1)))]] : List va_W).flatten := zf_subD hD [0, 1] (by decide) rfl
        exact W.iret (v := m_uaV sv m per) hx hb hr (z_end hP hD hS (by rw [m_uaW, if_neg c6, h8, show 6001 - i = 6001 - (i + 1) + 1 by omega, m_uaX, if_neg c_27])) hS.2.2 dX10_untilAlarm_72 hlocks
      · refine lv_aload_n hx hb dX10_untilAlarm_30 rfl (lv_at hl 0 rfl) ?_
        refine va_get (D := E.1) (ci := 9) (v := .ref k1) (C := RX10) (T := TX10) (N := 11) hx hb hts hi_X10 hown hK.1 hP 0 rfl rfl 1 (by decide) (hts (.fieldLink RX10 7 "AltimeterWatchModel" "s" "[I") (by decide +kernel)) (fun _ h9 => h9) rfl dX10_untilAlarm_31 ?_
        refine lv_sipush (v := 1044) hx hb dX10_untilAlarm_34 (by decide) ?_
        refine lv_dup2_11 hx hb dX10_untilAlarm_37 rfl rfl ?_
        refine z_iald (k := 1044) hx hb hK.1 hP 1 rfl rfl (by decide) (by decide) dX10_untilAlarm_38 ?_
        refine lv_iload_n hx hb dX10_untilAlarm_39 rfl (lv_at hl 1 rfl) ?_
        refine lv_isub hx hb dX10_untilAlarm_40 ?_
        refine z_iast (k := 1044) hx hb hK.1 hP hD hS 1 rfl rfl (by decide) (by decide) dX10_untilAlarm_41 (fun H locs hP hD hS => ?_)
        have hP : va_P E.1 vwCl ([[(h0, .inr (9, [.int th, .ref k1, .int sd, .ref k2, .ref k3, .int ln, .int at0, .int pt, .int mi, .int nu, .long ha]))], [(k1, .inl (E.2 0, 1160, .inl (upd ((m_uaA sv m per i).1) 1044 ((((m_uaA sv m per i).1) 1044) - per))))]] : List va_W).flatten H := hP
        have hD : va_D A ([[(h0, .inr (9, [.int th, .ref k1, .int sd, .ref k2, .ref k3, .int ln, .int at0, .int pt, .int mi, .int nu, .long ha]))], [(k1, .inl (E.2 0, 1160, .inl (upd ((m_uaA sv m per i).1) 1044 ((((m_uaA sv m per i).1) 1044) - per))))]] : List va_W).flatten := hD
        refine lv_aload_n hx hb dX10_untilAlarm_42 rfl (lv_at hl 0 rfl) ?_
        refine va_get (D := E.1) (ci := 9) (v := .ref k1) (C := RX10) (T := TX10) (N := 11) hx hb hts hi_X10 hown hK.1 hP 0 rfl rfl 1 (by decide) (hts (.fieldLink RX10 7 "AltimeterWatchModel" "s" "[I") (by decide +kernel)) (fun _ h9 => h9) rfl dX10_untilAlarm_43 ?_
        refine lv_sipush (v := 1044) hx hb dX10_untilAlarm_46 (by decide) ?_
        refine z_iald (k := 1044) hx hb hK.1 hP 1 rfl rfl (by decide) (by decide) dX10_untilAlarm_49 ?_
        refine z_topi (y := ((((m_uaA sv m per i).1) 1044) - per)) (by simp [upd]) ?_
        refine lv_sipush (v := 5000) hx hb dX10_untilAlarm_50 (by decide) ?_
        refine lv_icmp_ge (tgt := 58) hx hb dX10_untilAlarm_53 (by decide) (fun c_53 => ?_) (fun c_53 => ?_)
        · refine lv_aload_n hx hb dX10_untilAlarm_58 rfl (lv_at hl 0 rfl) ?_
          refine lv_sipush (v := 1044) hx hb dX10_untilAlarm_59 (by decide) ?_
          have hPc : va_P E.1 vwCl ([[(h0, .inr (9, [.int th, .ref k1, .int sd, .ref k2, .ref k3, .int ln, .int at0, .int pt, .int mi, .int nu, .long ha]))], [(k1, .inl (E.2 0, 1160, .inl (upd ((m_uaA sv m per i).1) 1044 ((((m_uaA sv m per i).1) 1044) - per))))]] : List va_W).flatten H := zf_sub hP [0, 1] rfl
          have hDc : va_D A ([[(h0, .inr (9, [.int th, .ref k1, .int sd, .ref k2, .ref k3, .int ln, .int at0, .int pt, .int mi, .int nu, .long ha]))], [(k1, .inl (E.2 0, 1160, .inl (upd ((m_uaA sv m per i).1) 1044 ((((m_uaA sv m per i).1) 1044) - per))))]] : List va_W).flatten := zf_subD hD [0, 1] (by decide) rfl
          refine z_mut (Sc := [[(h0, .inr (9, [.int th, .ref k1, .int sd, .ref k2, .ref k3, .int ln, .int at0, .int pt, .int mi, .int nu, .long ha]))], [(k1, .inl (E.2 0, 1160, .inl (upd ((m_uaA sv m per i).1) 1044 ((((m_uaA sv m per i).1) 1044) - per))))]]) (Sr := []) (W1 := [[(h0, .inr (9, [.int th, .ref k1, .int sd, .ref k2, .ref k3, .int ln, .int at0, .int pt, .int mi, .int nu, .long ha]))], [(k1, .inl (E.2 0, 1160, .inl (m_lgA (upd ((m_uaA sv m per i).1) 1044 ((((m_uaA sv m per i).1) 1044) - per)) 1044 (m_uaA sv m per i).2)))]]) (va_runV (As := [.int 1044]) (rest := []) ⟨hx, hb, hml, hown, hts⟩ (c_X10_logs l E h0 k1 k2 k3 th sd ln at0 pt mi nu ha 1044 1044 rfl (by omega) (upd ((m_uaA sv m per i).1) 1044 ((((m_uaA sv m per i).1) 1044) - per)) (m_uaA sv m per i).2 ((k_un (by decide)).trans (m_ua14 hm hm6 i).1) (m_ua14 hm hm6 i).2 H.size) (cwV 1 hts gX10_untilAlarm_X10_logs rfl rfl rfl (by decide +kernel) ⟨Nat.le_of_ble_eq_true rfl, Nat.le_of_ble_eq_true rfl⟩) ⟨zP.blind, va_recv hK.1 hPc (ci := 9) (q0 := 0) rfl rfl, z_pre hK hPc hDc⟩ rfl rfl hl.1 rfl (lv_room (Nat.le_of_ble_eq_true rfl)) dX10_untilAlarm_62 ⟨Nat.le_of_ble_eq_true rfl, Nat.le_of_ble_eq_true rfl⟩) hP hD hS hA [0, 1] [] rfl rfl (by decide) (by decide) (fun H locs hP hD hS => ?_)
          have hP : va_P E.1 vwCl ([[(h0, .inr (9, [.int th, .ref k1, .int sd, .ref k2, .ref k3, .int ln, .int at0, .int pt, .int mi, .int nu, .long ha]))], [(k1, .inl (E.2 0, 1160, .inl (m_lgA (upd ((m_uaA sv m per i).1) 1044 ((((m_uaA sv m per i).1) 1044) - per)) 1044 (m_uaA sv m per i).2)))]] : List va_W).flatten H := hP
          have hD : va_D A ([[(h0, .inr (9, [.int th, .ref k1, .int sd, .ref k2, .ref k3, .int ln, .int at0, .int pt, .int mi, .int nu, .long ha]))], [(k1, .inl (E.2 0, 1160, .inl (m_lgA (upd ((m_uaA sv m per i).1) 1044 ((((m_uaA sv m per i).1) 1044) - per)) 1044 (m_uaA sv m per i).2)))]] : List va_W).flatten := hD
          refine W.eq (g2 := F0 Mi 65 ls []) rfl ?_
          rw [← m_ua_s1] at hP hD
          obtain ⟨x_1, ex_1⟩ : ∃ y : Int32, y = x + 1 := ⟨_, rfl⟩
          refine lv_iinc (v := x_1) (lv' := [(2, .int x_1), (0, .ref h0), (1, .int per)]) hx hb dX10_untilAlarm_65 hl (k := 2) rfl (by rw [ex_1]; rfl) (by decide) rfl (fun ls hl => ?_)
          refine lv_goto (tgt := 20) hx hb dX10_untilAlarm_68 (by decide) ?_
          exact ih (i + 1) (q - pe) x_1 (by omega) (by omega) (by have e9 : (m_uaA sv m per i).1 1044 - per = nI (q - pe) := (by rw [h4, hpe]; exact pk_sub (by omega)); have c := c_53; rw [e9] at c; exact nI_len (a := 5000) (b := q - pe) (by decide) (by omega) c) (by rw [ex_1, h3]; exact nI_1 i) (by rw [m_ua_s1, m_lgA_0, k_us, h4, hpe]; exact pk_sub (by omega)) (by rw [h7, show 6001 - i = 6001 - (i + 1) + 1 by omega, m_uaR, if_pos c_27, if_neg (Int32.not_lt.mpr c_53)]) (by rw [h8, show 6001 - i = 6001 - (i + 1) + 1 by omega, m_uaX, if_pos c_27, if_neg (Int32.not_lt.mpr c_53)]) c6 _ _ (zf_sub hP [0, 1] rfl) (zf_subD hD [0, 1] (by decide) rfl) hS ls (lv_sub hl [1, 2, 0] rfl)
        · refine lv_iconst (v := (-1)) hx hb dX10_untilAlarm_56 (by decide) ?_
          refine z_topi (y := m_uaV sv m per) (by rw [m_uaV, if_neg c6, h7, show 6001 - i = 6001 - (i + 1) + 1 by omega, m_uaR, if_pos c_27, if_pos (Int32.not_le.mp c_53)]) ?_
          have hP : va_P E.1 vwCl ([[(h0, .inr (9, [.int th, .ref k1, .int sd, .ref k2, .ref k3, .int ln, .int at0, .int pt, .int mi, .int nu, .long ha]))], [(k1, .inl (E.2 0, 1160, .inl (upd ((m_uaA sv m per i).1) 1044 ((((m_uaA sv m per i).1) 1044) - per))))]] : List va_W).flatten H := zf_sub hP [0, 1] rfl
          have hD : va_D A ([[(h0, .inr (9, [.int th, .ref k1, .int sd, .ref k2, .ref k3, .int ln, .int at0, .int pt, .int mi, .int nu, .long ha]))], [(k1, .inl (E.2 0, 1160, .inl (upd ((m_uaA sv m per i).1) 1044 ((((m_uaA sv m per i).1) 1044) - per))))]] : List va_W).flatten := zf_subD hD [0, 1] (by decide) rfl
          exact W.iret (v := m_uaV sv m per) hx hb hr (z_end hP hD hS (by rw [m_uaW, if_neg c6, h8, show 6001 - i = 6001 - (i + 1) + 1 by omega, m_uaX, if_pos c_27, if_pos (Int32.not_le.mp c_53)])) hS.2.2 dX10_untilAlarm_57 hlocks
  refine lv_aload_n hx hb dX10_untilAlarm_0 rfl (lv_at hl 0 rfl) ?_
  refine va_get (D := E.1) (ci := 9) (v := .ref k1) (C := RX10) (T := TX10) (N := 11) hx hb hts hi_X10 hown hK.1 hP 0 rfl rfl 1 (by decide) (hts (.fieldLink RX10 7 "AltimeterWatchModel" "s" "[I") (by decide +kernel)) (fun _ h9 => h9) rfl dX10_untilAlarm_1 ?_
  refine lv_iconst (v := 2) hx hb dX10_untilAlarm_4 (by decide) ?_
  refine z_iald (k := 2) hx hb hK.1 hP 1 rfl rfl (by decide) (by decide) dX10_untilAlarm_5 ?_
  refine lv_if_ne (tgt := 11) hx hb dX10_untilAlarm_6 (by decide) (fun c_6 => ?_) (fun c_6 => ?_)
  · refine lv_aload_n hx hb dX10_untilAlarm_11 rfl (lv_at hl 0 rfl) ?_
    refine lv_iconst (v := 0) hx hb dX10_untilAlarm_12 (by decide) ?_
    refine lv_bipush (v := 9) hx hb dX10_untilAlarm_13 (by decide) ?_
    have hPc : va_P E.1 vwCl ([[(h0, .inr (9, [.int th, .ref k1, .int sd, .ref k2, .ref k3, .int ln, .int at0, .int pt, .int mi, .int nu, .long ha]))], [(k1, .inl (E.2 0, 1160, .inl sv))]] : List va_W).flatten H := zf_sub hP [0, 1] rfl
    have hDc : va_D A ([[(h0, .inr (9, [.int th, .ref k1, .int sd, .ref k2, .ref k3, .int ln, .int at0, .int pt, .int mi, .int nu, .long ha]))], [(k1, .inl (E.2 0, 1160, .inl sv))]] : List va_W).flatten := zf_subD hD [0, 1] (by decide) rfl
    refine z_mut (Sc := [[(h0, .inr (9, [.int th, .ref k1, .int sd, .ref k2, .ref k3, .int ln, .int at0, .int pt, .int mi, .int nu, .long ha]))], [(k1, .inl (E.2 0, 1160, .inl sv))]]) (Sr := []) (W1 := [[(h0, .inr (9, [.int th, .ref k1, .int sd, .ref k2, .ref k3, .int ln, .int at0, .int pt, .int mi, .int nu, .long ha]))], [(k1, .inl (E.2 0, 1160, .inl (m_cpA sv 0 9 116)))]]) (va_runV (As := [.int 0, .int 9]) (rest := []) ⟨hx, hb, hml, hown, hts⟩ (c_X10_copies l E h0 k1 k2 k3 th sd ln at0 pt mi nu ha 0 9 0 9 rfl rfl (by omega) (by omega) sv H.size) (cwV 2 hts gX10_untilAlarm_X10_copies rfl rfl rfl (by decide +kernel) ⟨Nat.le_of_ble_eq_true rfl, Nat.le_of_ble_eq_true rfl⟩) ⟨zP.blind, va_recv hK.1 hPc (ci := 9) (q0 := 0) rfl rfl, z_pre hK hPc hDc⟩ rfl rfl hl.1 rfl (lv_room (Nat.le_of_ble_eq_true rfl)) dX10_untilAlarm_15 ⟨Nat.le_of_ble_eq_true rfl, Nat.le_of_ble_eq_true rfl⟩) hP hD hS hA [0, 1] [] rfl rfl (by decide) (by decide) (fun H locs hP hD hS => ?_)
    have hP : va_P E.1 vwCl ([[(h0, .inr (9, [.int th, .ref k1, .int sd, .ref k2, .ref k3, .int ln, .int at0, .int pt, .int mi, .int nu, .long ha]))], [(k1, .inl (E.2 0, 1160, .inl (m_cpA sv 0 9 116)))]] : List va_W).flatten H := hP
    have hD : va_D A ([[(h0, .inr (9, [.int th, .ref k1, .int sd, .ref k2, .ref k3, .int ln, .int at0, .int pt, .int mi, .int nu, .long ha]))], [(k1, .inl (E.2 0, 1160, .inl (m_cpA sv 0 9 116)))]] : List va_W).flatten := hD
    refine W.eq (g2 := F0 Mi 18 ls []) rfl ?_
    have e0 : m_cpA sv 0 9 116 = (m_uaA sv m per 0).1 := by rw [m_uaA]
    rw [e0] at hP hD
    refine lv_iconst (v := 0) hx hb dX10_untilAlarm_18 (by decide) ?_
    refine lv_istore_n (lv' := [(2, .int 0), (0, .ref h0), (1, .int per)]) hx hb dX10_untilAlarm_19 rfl hl (by decide) rfl (fun ls hl => ?_)
    exact LOOP_20 6002 0 pq 0 (by decide) (by omega) (by omega) rfl (m_ua0 hp0) rfl rfl c_6 _ _ (zf_sub hP [0, 1] rfl) (zf_subD hD [0, 1] (by decide) rfl) hS ls (lv_sub hl [1, 2, 0] rfl)
  · refine lv_iconst (v := (-1)) hx hb dX10_untilAlarm_9 (by decide) ?_
    refine z_topi (y := m_uaV sv m per) (by rw [m_uaV, if_pos c_6]) ?_
    have hP : va_P E.1 vwCl ([[(h0, .inr (9, [.int th, .ref k1, .int sd, .ref k2, .ref k3, .int ln, .int at0, .int pt, .int mi, .int nu, .long ha]))], [(k1, .inl (E.2 0, 1160, .inl sv))]] : List va_W).flatten H := zf_sub hP [0, 1] rfl
    have hD : va_D A ([[(h0, .inr (9, [.int th, .ref k1, .int sd, .ref k2, .ref k3, .int ln, .int at0, .int pt, .int mi, .int nu, .long ha]))], [(k1, .inl (E.2 0, 1160, .inl sv))]] : List va_W).flatten := zf_subD hD [0, 1] (by decide) rfl
    exact W.iret (v := m_uaV sv m per) hx hb hr (z_end hP hD hS (by rw [m_uaW, if_pos c_6])) hS.2.2 dX10_untilAlarm_10 hlocks
