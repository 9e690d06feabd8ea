set_option maxHeartbeats 4000000 in
set_option maxRecDepth 100000 in
theorem c_L_travels (l : Launch) (E : zE) (sa : Nat → Nat) (hl0 : l.stackTraces = false) (xa na ma mb : Nat → Nat) (ad : Nat → Nat → Nat) (tx : Nat → Int32) (ln nx ct f0 f1 : Int32) (g ga gb : Nat → Int32) (v : Nat → Nat → Int32) (hw : z_wk ln nx ct f0 f1 g ga gb v) {T : Nat} (hg : z_g T g) (hT5 : T ≤ 5000) (n p : Int32) (hc : (1 ≤ n ∧ n ≤ 120) ∧ (5000 ≤ p ∧ p ≤ 11000)) : zME l yL_travels wsL_travels ({ frames := 8, cells := 7, slots := 40, locals := 152 }) E sa [.ref (xa 0), .int n, .int p] ([(z_W E xa na ma mb ad tx ln nx ct f0 f1 g ga gb v).flatten] : List va_W).flatten True (some (.int 1)) ([(z_W E xa na ma mb ad tx ln (nI ((m_n nx + 1) % 6)) (nI (if m_n ct < 6 then m_n ct + 1 else 6)) f0 f1 (m_tripC g n p (m_n n)) ga gb (va_up v (m_n nx) g)).flatten] : List va_W).flatten (fun _ => False) 7 40 := by
  refine z_starte (cc := cL_travels) (maxL := 11) (ret := (some .boolean)) (by decide) rfl (Nat.le_of_ble_eq_true rfl) ?_
  intro Pg En s Mi below meth Cd A hx hb hr hts hown hlocks hml hnt hA hT hZ H hH hP hK hD hS ls hl
  have hl : lv_has ls 11 [(0, .ref (xa 0)), (1, .int n), (2, .int p)] := hl
  refine lv_aload_n hx hb dL_travels_0 rfl (lv_at hl 0 rfl) ?_
  refine lv_iload_n hx hb dL_travels_1 rfl (lv_at hl 1 rfl) ?_
  refine lv_iload_n hx hb dL_travels_2 rfl (lv_at hl 2 rfl) ?_
  have ph_3 : (1 ≤ n ∧ n ≤ 120) ∧ (5000 ≤ p ∧ p ≤ 11000) := hc
  have hPc : va_P E.1 vwCl ([(z_W E xa na ma mb ad tx ln nx ct f0 f1 g ga gb v).flatten] : List va_W).flatten H := zf_sub hP [0] rfl
  have hDc : va_D A ([(z_W E xa na ma mb ad tx ln nx ct f0 f1 g ga gb v).flatten] : List va_W).flatten := zf_subD hD [0] (by decide) rfl
  refine z_xmut (Sc := [(z_W E xa na ma mb ad tx ln nx ct f0 f1 g ga gb v).flatten]) (Sr := []) (W1 := [(z_W E xa na ma mb ad tx ln nx ct f0 f1 g ga gb v).flatten]) (vx_runV (As := [.int n, .int p]) (rest := []) ⟨hx, hb, hml, hown, hts⟩ (c_X9_altitudeAfter l E sa hl0 xa na ma mb ad tx ln nx ct f0 f1 g ga gb v hw n p H.size) (cwV 2 hts gL_travels_X9_altitudeAfter rfl rfl rfl (by decide +kernel) ⟨Nat.le_of_ble_eq_true rfl, Nat.le_of_ble_eq_true rfl⟩) ⟨zPE.blind, va_recv hK.1 hPc (ci := 8) (q0 := 0) rfl rfl, z_preE hK hT hZ hS (zf_free hD hS hA [0] rfl) hPc hDc⟩ rfl rfl hl.1 rfl (lv_room (Nat.le_of_ble_eq_true rfl)) dL_travels_3 ⟨Nat.le_of_ble_eq_true rfl, Nat.le_of_ble_eq_true rfl⟩) hP hD hS hA [0] [] rfl rfl (by decide) (by decide) (fun Ex ce q9 H locs hps hP hD hS hce hcv hcl => ?_) (fun H locs _ hP hD hS => ?_)
  · exact (absurd ph_3 hps.2)
  have hP : va_P E.1 vwCl ([(z_W E xa na ma mb ad tx ln nx ct f0 f1 g ga gb v).flatten] : List va_W).flatten H := hP
  have hD : va_D A ([(z_W E xa na ma mb ad tx ln nx ct f0 f1 g ga gb v).flatten] : List va_W).flatten := hD
  refine W.widen (k := 2) (n := 12) (by decide) (by decide) ?_
  refine W.eq (g2 := F0 Mi 6 ls [.int (m_hatC g p)]) rfl ?_
  refine lv_istore_n (lv' := [(3, .int (m_hatC g p)), (0, .ref (xa 0)), (1, .int n), (2, .int p)]) hx hb dL_travels_6 rfl hl (by decide) rfl (fun ls hl => ?_)
  refine lv_aload_n hx hb dL_travels_7 rfl (lv_at hl 1 rfl) ?_
  refine lv_iload_n hx hb dL_travels_8 rfl (lv_at hl 2 rfl) ?_
  refine lv_iload_n hx hb dL_travels_9 rfl (lv_at hl 3 rfl) ?_
  have ph_10 : (1 ≤ n ∧ n ≤ 120) ∧ (5000 ≤ p ∧ p ≤ 11000) := hc
  have hPc : va_P E.1 vwCl ([(z_W E xa na ma mb ad tx ln nx ct f0 f1 g ga gb v).flatten] : List va_W).flatten H := zf_sub hP [0] rfl
  have hDc : va_D A ([(z_W E xa na ma mb ad tx ln nx ct f0 f1 g ga gb v).flatten] : List va_W).flatten := zf_subD hD [0] (by decide) rfl
  refine z_xmut (Sc := [(z_W E xa na ma mb ad tx ln nx ct f0 f1 g ga gb v).flatten]) (Sr := []) (W1 := [(z_W E xa na ma mb ad tx ln nx ct f0 f1 g ga gb v).flatten]) (vx_runV (As := [.int n, .int p]) (rest := []) ⟨hx, hb, hml, hown, hts⟩ (c_X9_ascentIn l E sa hl0 xa na ma mb ad tx ln nx ct f0 f1 g ga gb v hw n p H.size) (cwV 2 hts gL_travels_X9_ascentIn rfl rfl rfl (by decide +kernel) ⟨Nat.le_of_ble_eq_true rfl, Nat.le_of_ble_eq_true rfl⟩) ⟨zPE.blind, va_recv hK.1 hPc (ci := 8) (q0 := 0) rfl rfl, z_preE hK hT hZ hS (zf_free hD hS hA [0] rfl) hPc hDc⟩ rfl rfl hl.1 rfl (lv_room (Nat.le_of_ble_eq_true rfl)) dL_travels_10 ⟨Nat.le_of_ble_eq_true rfl, Nat.le_of_ble_eq_true rfl⟩) hP hD hS hA [0] [] rfl rfl (by decide) (by decide) (fun Ex ce q9 H locs hps hP hD hS hce hcv hcl => ?_) (fun H locs _ hP hD hS => ?_)
  · exact (absurd ph_10 hps.2)
  have hP : va_P E.1 vwCl ([(z_W E xa na ma mb ad tx ln nx ct f0 f1 g ga gb v).flatten] : List va_W).flatten H := hP
  have hD : va_D A ([(z_W E xa na ma mb ad tx ln nx ct f0 f1 g ga gb v).flatten] : List va_W).flatten := hD
  refine W.widen (k := 5) (n := 28) (by decide) (by decide) ?_
  refine W.eq (g2 := F0 Mi 13 ls [.int (m_ascR g n p (m_n n))]) rfl ?_
  refine lv_istore (lv' := [(4, .int (m_ascR g n p (m_n n))), (3, .int (m_hatC g p)), (0, .ref (xa 0)), (1, .int n), (2, .int p)]) hx hb dL_travels_13 hl (by decide) rfl (fun ls hl => ?_)
  refine lv_aload_n hx hb dL_travels_15 rfl (lv_at hl 2 rfl) ?_
  have hPc : va_P E.1 vwCl ([(z_W E xa na ma mb ad tx ln nx ct f0 f1 g ga gb v).flatten] : List va_W).flatten H := zf_sub hP [0] rfl
  refine z_rdv (va_runV (As := []) (rest := []) ⟨hx, hb, hml, hown, hts⟩ (c_X9_ascent l E xa na ma mb ad tx ln nx ct f0 f1 g ga gb v hw) (cwV 0 hts gL_travels_X9_ascent rfl rfl rfl (by decide +kernel) ⟨Nat.le_of_ble_eq_true rfl, Nat.le_of_ble_eq_true rfl⟩) ⟨zPr.blind, va_recv hK.1 hPc (ci := 8) (q0 := 0) rfl rfl, z_prer hK hPc⟩ rfl rfl hl.1 rfl (lv_room (Nat.le_of_ble_eq_true rfl)) dL_travels_16 ⟨Nat.le_of_ble_eq_true rfl, Nat.le_of_ble_eq_true rfl⟩) ?_
  refine W.eq (g2 := F0 Mi 19 ls [.int (g 7)]) rfl ?_
  refine lv_istore (lv' := [(5, .int (g 7)), (4, .int (m_ascR g n p (m_n n))), (3, .int (m_hatC g p)), (0, .ref (xa 0)), (1, .int n), (2, .int p)]) hx hb dL_travels_19 hl (by decide) rfl (fun ls hl => ?_)
  refine lv_aload_n hx hb dL_travels_21 rfl (lv_at hl 3 rfl) ?_
  have hPc : va_P E.1 vwCl ([(z_W E xa na ma mb ad tx ln nx ct f0 f1 g ga gb v).flatten] : List va_W).flatten H := zf_sub hP [0] rfl
  refine z_rdv (va_runV (As := []) (rest := []) ⟨hx, hb, hml, hown, hts⟩ (c_X9_descent l E xa na ma mb ad tx ln nx ct f0 f1 g ga gb v hw) (cwV 0 hts gL_travels_X9_descent rfl rfl rfl (by decide +kernel) ⟨Nat.le_of_ble_eq_true rfl, Nat.le_of_ble_eq_true rfl⟩) ⟨zPr.blind, va_recv hK.1 hPc (ci := 8) (q0 := 0) rfl rfl, z_prer hK hPc⟩ rfl rfl hl.1 rfl (lv_room (Nat.le_of_ble_eq_true rfl)) dL_travels_22 ⟨Nat.le_of_ble_eq_true rfl, Nat.le_of_ble_eq_true rfl⟩) ?_
  refine W.eq (g2 := F0 Mi 25 ls [.int (g 8)]) rfl ?_
  refine lv_istore (lv' := [(6, .int (g 8)), (5, .int (g 7)), (4, .int (m_ascR g n p (m_n n))), (3, .int (m_hatC g p)), (0, .ref (xa 0)), (1, .int n), (2, .int p)]) hx hb dL_travels_25 hl (by decide) rfl (fun ls hl => ?_)
  refine lv_aload_n hx hb dL_travels_27 rfl (lv_at hl 4 rfl) ?_
  have hPc : va_P E.1 vwCl ([(z_W E xa na ma mb ad tx ln nx ct f0 f1 g ga gb v).flatten] : List va_W).flatten H := zf_sub hP [0] rfl
  refine z_rdv (va_runV (As := []) (rest := []) ⟨hx, hb, hml, hown, hts⟩ (c_X9_sea l E xa na ma mb ad tx ln nx ct f0 f1 g ga gb v hw) (cwV 0 hts gL_travels_X9_sea rfl rfl rfl (by decide +kernel) ⟨Nat.le_of_ble_eq_true rfl, Nat.le_of_ble_eq_true rfl⟩) ⟨zPr.blind, va_recv hK.1 hPc (ci := 8) (q0 := 0) rfl rfl, z_prer hK hPc⟩ rfl rfl hl.1 rfl (lv_room (Nat.le_of_ble_eq_true rfl)) dL_travels_28 ⟨Nat.le_of_ble_eq_true rfl, Nat.le_of_ble_eq_true rfl⟩) ?_
  refine W.eq (g2 := F0 Mi 31 ls [.int (g 1)]) rfl ?_
  refine lv_istore (lv' := [(7, .int (g 1)), (6, .int (g 8)), (5, .int (g 7)), (4, .int (m_ascR g n p (m_n n))), (3, .int (m_hatC g p)), (0, .ref (xa 0)), (1, .int n), (2, .int p)]) hx hb dL_travels_31 hl (by decide) rfl (fun ls hl => ?_)
  refine lv_aload_n hx hb dL_travels_33 rfl (lv_at hl 5 rfl) ?_
  have hPc : va_P E.1 vwCl ([(z_W E xa na ma mb ad tx ln nx ct f0 f1 g ga gb v).flatten] : List va_W).flatten H := zf_sub hP [0] rfl
  refine z_rdv (va_runV (As := []) (rest := []) ⟨hx, hb, hml, hown, hts⟩ (c_X9_minutes l E xa na ma mb ad tx ln nx ct f0 f1 g ga gb v hw) (cwV 0 hts gL_travels_X9_minutes rfl rfl rfl (by decide +kernel) ⟨Nat.le_of_ble_eq_true rfl, Nat.le_of_ble_eq_true rfl⟩) ⟨zPr.blind, va_recv hK.1 hPc (ci := 8) (q0 := 0) rfl rfl, z_prer hK hPc⟩ rfl rfl hl.1 rfl (lv_room (Nat.le_of_ble_eq_true rfl)) dL_travels_34 ⟨Nat.le_of_ble_eq_true rfl, Nat.le_of_ble_eq_true rfl⟩) ?_
  refine W.eq (g2 := F0 Mi 37 ls [.int (g 4)]) rfl ?_
  refine lv_istore (lv' := [(8, .int (g 4)), (7, .int (g 1)), (6, .int (g 8)), (5, .int (g 7)), (4, .int (m_ascR g n p (m_n n))), (3, .int (m_hatC g p)), (0, .ref (xa 0)), (1, .int n), (2, .int p)]) hx hb dL_travels_37 hl (by decide) rfl (fun ls hl => ?_)
  refine lv_aload_n hx hb dL_travels_39 rfl (lv_at hl 6 rfl) ?_
  have hPc : va_P E.1 vwCl ([(z_W E xa na ma mb ad tx ln nx ct f0 f1 g ga gb v).flatten] : List va_W).flatten H := zf_sub hP [0] rfl
  refine z_rdv (va_runV (As := []) (rest := []) ⟨hx, hb, hml, hown, hts⟩ (c_X9_alarms l E xa na ma mb ad tx ln nx ct f0 f1 g ga gb v hw) (cwV 0 hts gL_travels_X9_alarms rfl rfl rfl (by decide +kernel) ⟨Nat.le_of_ble_eq_true rfl, Nat.le_of_ble_eq_true rfl⟩) ⟨zPr.blind, va_recv hK.1 hPc (ci := 8) (q0 := 0) rfl rfl, z_prer hK hPc⟩ rfl rfl hl.1 rfl (lv_room (Nat.le_of_ble_eq_true rfl)) dL_travels_40 ⟨Nat.le_of_ble_eq_true rfl, Nat.le_of_ble_eq_true rfl⟩) ?_
  refine W.eq (g2 := F0 Mi 43 ls [.int (g 12)]) rfl ?_
  refine lv_istore (lv' := [(9, .int (g 12)), (8, .int (g 4)), (7, .int (g 1)), (6, .int (g 8)), (5, .int (g 7)), (4, .int (m_ascR g n p (m_n n))), (3, .int (m_hatC g p)), (0, .ref (xa 0)), (1, .int n), (2, .int p)]) hx hb dL_travels_43 hl (by decide) rfl (fun ls hl => ?_)
  refine lv_aload_n hx hb dL_travels_45 rfl (lv_at hl 7 rfl) ?_
  refine lv_iload_n hx hb dL_travels_46 rfl (lv_at hl 8 rfl) ?_
  refine lv_iload_n hx hb dL_travels_47 rfl (lv_at hl 9 rfl) ?_
  have ph_48 : (1 ≤ n ∧ n ≤ 120) ∧ (5000 ≤ p ∧ p ≤ 11000) := hc
  have hPc : va_P E.1 vwCl ([(z_W E xa na ma mb ad tx ln nx ct f0 f1 g ga gb v).flatten] : List va_W).flatten H := zf_sub hP [0] rfl
  have hDc : va_D A ([(z_W E xa na ma mb ad tx ln nx ct f0 f1 g ga gb v).flatten] : List va_W).flatten := zf_subD hD [0] (by decide) rfl
  refine z_xmut (Sc := [(z_W E xa na ma mb ad tx ln nx ct f0 f1 g ga gb v).flatten]) (Sr := []) (W1 := [(z_W E xa na ma mb ad tx ln (nI ((m_n nx + 1) % 6)) (nI (if m_n ct < 6 then m_n ct + 1 else 6)) f0 f1 (m_tripC g n p (m_n n)) ga gb (va_up v (m_n nx) g)).flatten]) (vx_runV (As := [.int n, .int p]) (rest := []) ⟨hx, hb, hml, hown, hts⟩ (c_X9_travel l E sa hl0 xa na ma mb ad tx ln nx ct f0 f1 g ga gb v hw n p H.size) (cwV 2 hts gL_travels_X9_travel rfl rfl rfl (by decide +kernel) ⟨Nat.le_of_ble_eq_true rfl, Nat.le_of_ble_eq_true rfl⟩) ⟨zPE.blind, va_recv hK.1 hPc (ci := 8) (q0 := 0) rfl rfl, z_preE hK hT hZ hS (zf_free hD hS hA [0] rfl) hPc hDc⟩ rfl rfl hl.1 rfl (lv_room (Nat.le_of_ble_eq_true rfl)) dL_travels_48 ⟨Nat.le_of_ble_eq_true rfl, Nat.le_of_ble_eq_true rfl⟩) hP hD hS hA [0] [] rfl rfl (by decide) (by decide) (fun Ex ce q9 H locs hps hP hD hS hce hcv hcl => ?_) (fun H locs _ hP hD hS => ?_)
  · exact (absurd ph_48 hps.2)
  have hP : va_P E.1 vwCl ([(z_W E xa na ma mb ad tx ln (nI ((m_n nx + 1) % 6)) (nI (if m_n ct < 6 then m_n ct + 1 else 6)) f0 f1 (m_tripC g n p (m_n n)) ga gb (va_up v (m_n nx) g)).flatten] : List va_W).flatten H := hP
  have hD : va_D A ([(z_W E xa na ma mb ad tx ln (nI ((m_n nx + 1) % 6)) (nI (if m_n ct < 6 then m_n ct + 1 else 6)) f0 f1 (m_tripC g n p (m_n n)) ga gb (va_up v (m_n nx) g)).flatten] : List va_W).flatten := hD
  refine W.widen (k := 7) (n := 40) (by decide) (by decide) ?_
  refine W.eq (g2 := F0 Mi 51 ls [.int (m_std ((m_tripC g n p (m_n n)) 0) - m_std ((m_tripC g n p (m_n n)) 1))]) rfl ?_
  have hw_1 : z_wk ln (nI ((m_n nx + 1) % 6)) (nI (if m_n ct < 6 then m_n ct + 1 else 6)) f0 f1 (m_tripC g n p (m_n n)) ga gb (va_up v (m_n nx) g) := z_wk_save hw (show z_ok (m_tripC g n p (m_n n)) from z_ok_trip hw.1 _)
  refine lv_iload_n hx hb dL_travels_51 rfl (lv_at hl 6 rfl) ?_
  refine lv_icmp_ne (tgt := 123) hx hb dL_travels_52 (by decide) (fun h9 => absurd (t_hat hg hc) h9) (fun _ => ?_)
  refine lv_aload_n hx hb dL_travels_55 rfl (lv_at hl 7 rfl) ?_
  have hPc : va_P E.1 vwCl ([(z_W E xa na ma mb ad tx ln (nI ((m_n nx + 1) % 6)) (nI (if m_n ct < 6 then m_n ct + 1 else 6)) f0 f1 (m_tripC g n p (m_n n)) ga gb (va_up v (m_n nx) g)).flatten] : List va_W).flatten H := zf_sub hP [0] rfl
  refine z_rdv (va_runV (As := []) (rest := []) ⟨hx, hb, hml, hown, hts⟩ (c_X9_altitude l E xa na ma mb ad tx ln (nI ((m_n nx + 1) % 6)) (nI (if m_n ct < 6 then m_n ct + 1 else 6)) f0 f1 (m_tripC g n p (m_n n)) ga gb (va_up v (m_n nx) g) hw_1) (cwV 0 hts gL_travels_X9_altitude rfl rfl rfl (by decide +kernel) ⟨Nat.le_of_ble_eq_true rfl, Nat.le_of_ble_eq_true rfl⟩) ⟨zPr.blind, va_recv hK.1 hPc (ci := 8) (q0 := 0) rfl rfl, z_prer hK hPc⟩ rfl rfl hl.1 rfl (lv_room (Nat.le_of_ble_eq_true rfl)) dL_travels_56 ⟨Nat.le_of_ble_eq_true rfl, Nat.le_of_ble_eq_true rfl⟩) ?_
  refine W.eq (g2 := F0 Mi 59 ls [.int (m_std ((m_tripC g n p (m_n n)) 0) - m_std ((m_tripC g n p (m_n n)) 1))]) rfl ?_
  refine lv_iload_n hx hb dL_travels_59 rfl (lv_at hl 6 rfl) ?_
  refine lv_icmp_ne (tgt := 123) hx hb dL_travels_60 (by decide) (fun h9 => absurd (t_hat hg hc) h9) (fun _ => ?_)
  refine lv_aload_n hx hb dL_travels_63 rfl (lv_at hl 7 rfl) ?_
  have hPc : va_P E.1 vwCl ([(z_W E xa na ma mb ad tx ln (nI ((m_n nx + 1) % 6)) (nI (if m_n ct < 6 then m_n ct + 1 else 6)) f0 f1 (m_tripC g n p (m_n n)) ga gb (va_up v (m_n nx) g)).flatten] : List va_W).flatten H := zf_sub hP [0] rfl
  refine z_rdv (va_runV (As := []) (rest := []) ⟨hx, hb, hml, hown, hts⟩ (c_X9_pressure l E xa na ma mb ad tx ln (nI ((m_n nx + 1) % 6)) (nI (if m_n ct < 6 then m_n ct + 1 else 6)) f0 f1 (m_tripC g n p (m_n n)) ga gb (va_up v (m_n nx) g) hw_1) (cwV 0 hts gL_travels_X9_pressure rfl rfl rfl (by decide +kernel) ⟨Nat.le_of_ble_eq_true rfl, Nat.le_of_ble_eq_true rfl⟩) ⟨zPr.blind, va_recv hK.1 hPc (ci := 8) (q0 := 0) rfl rfl, z_prer hK hPc⟩ rfl rfl hl.1 rfl (lv_room (Nat.le_of_ble_eq_true rfl)) dL_travels_64 ⟨Nat.le_of_ble_eq_true rfl, Nat.le_of_ble_eq_true rfl⟩) ?_
  refine W.eq (g2 := F0 Mi 67 ls [.int ((m_tripC g n p (m_n n)) 0)]) rfl ?_
  refine lv_iload_n hx hb dL_travels_67 rfl (lv_at hl 9 rfl) ?_
  refine lv_icmp_ne (tgt := 123) hx hb dL_travels_68 (by decide) (fun h9 => absurd (t_0 hg hc) h9) (fun _ => ?_)
  refine lv_aload_n hx hb dL_travels_71 rfl (lv_at hl 7 rfl) ?_
  have hPc : va_P E.1 vwCl ([(z_W E xa na ma mb ad tx ln (nI ((m_n nx + 1) % 6)) (nI (if m_n ct < 6 then m_n ct + 1 else 6)) f0 f1 (m_tripC g n p (m_n n)) ga gb (va_up v (m_n nx) g)).flatten] : List va_W).flatten H := zf_sub hP [0] rfl
  refine z_rdv (va_runV (As := []) (rest := []) ⟨hx, hb, hml, hown, hts⟩ (c_X9_minutes l E xa na ma mb ad tx ln (nI ((m_n nx + 1) % 6)) (nI (if m_n ct < 6 then m_n ct + 1 else 6)) f0 f1 (m_tripC g n p (m_n n)) ga gb (va_up v (m_n nx) g) hw_1) (cwV 0 hts gL_travels_X9_minutes rfl rfl rfl (by decide +kernel) ⟨Nat.le_of_ble_eq_true rfl, Nat.le_of_ble_eq_true rfl⟩) ⟨zPr.blind, va_recv hK.1 hPc (ci := 8) (q0 := 0) rfl rfl, z_prer hK hPc⟩ rfl rfl hl.1 rfl (lv_room (Nat.le_of_ble_eq_true rfl)) dL_travels_72 ⟨Nat.le_of_ble_eq_true rfl, Nat.le_of_ble_eq_true rfl⟩) ?_
  refine W.eq (g2 := F0 Mi 75 ls [.int ((m_tripC g n p (m_n n)) 4)]) rfl ?_
  refine lv_iload hx hb dL_travels_75 (lv_at hl 1 rfl) ?_
  refine lv_iload_n hx hb dL_travels_77 rfl (lv_at hl 8 rfl) ?_
  refine lv_iadd hx hb dL_travels_78 ?_
  refine lv_icmp_ne (tgt := 123) hx hb dL_travels_79 (by decide) (fun h9 => absurd (t_4 hg hc) h9) (fun _ => ?_)
  refine lv_aload_n hx hb dL_travels_82 rfl (lv_at hl 7 rfl) ?_
  have hPc : va_P E.1 vwCl ([(z_W E xa na ma mb ad tx ln (nI ((m_n nx + 1) % 6)) (nI (if m_n ct < 6 then m_n ct + 1 else 6)) f0 f1 (m_tripC g n p (m_n n)) ga gb (va_up v (m_n nx) g)).flatten] : List va_W).flatten H := zf_sub hP [0] rfl
  refine z_rdv (va_runV (As := []) (rest := []) ⟨hx, hb, hml, hown, hts⟩ (c_X9_ascent l E xa na ma mb ad tx ln (nI ((m_n nx + 1) % 6)) (nI (if m_n ct < 6 then m_n ct + 1 else 6)) f0 f1 (m_tripC g n p (m_n n)) ga gb (va_up v (m_n nx) g) hw_1) (cwV 0 hts gL_travels_X9_ascent rfl rfl rfl (by decide +kernel) ⟨Nat.le_of_ble_eq_true rfl, Nat.le_of_ble_eq_true rfl⟩) ⟨zPr.blind, va_recv hK.1 hPc (ci := 8) (q0 := 0) rfl rfl, z_prer hK hPc⟩ rfl rfl hl.1 rfl (lv_room (Nat.le_of_ble_eq_true rfl)) dL_travels_83 ⟨Nat.le_of_ble_eq_true rfl, Nat.le_of_ble_eq_true rfl⟩) ?_
  refine W.eq (g2 := F0 Mi 86 ls [.int ((m_tripC g n p (m_n n)) 7)]) rfl ?_
  refine lv_iload hx hb dL_travels_86 (lv_at hl 4 rfl) ?_
  refine lv_iload hx hb dL_travels_88 (lv_at hl 5 rfl) ?_
  refine lv_iadd hx hb dL_travels_90 ?_
  refine lv_icmp_ne (tgt := 123) hx hb dL_travels_91 (by decide) (fun h9 => absurd (t_7) h9) (fun _ => ?_)
  refine lv_iload hx hb dL_travels_94 (lv_at hl 5 rfl) ?_
  refine lv_if_lt (tgt := 123) hx hb dL_travels_96 (by decide) (fun h9 => absurd h9 (t_a0 hT5 hg hc)) (fun _ => ?_)
  refine lv_aload_n hx hb dL_travels_99 rfl (lv_at hl 7 rfl) ?_
  have hPc : va_P E.1 vwCl ([(z_W E xa na ma mb ad tx ln (nI ((m_n nx + 1) % 6)) (nI (if m_n ct < 6 then m_n ct + 1 else 6)) f0 f1 (m_tripC g n p (m_n n)) ga gb (va_up v (m_n nx) g)).flatten] : List va_W).flatten H := zf_sub hP [0] rfl
  refine z_rdv (va_runV (As := []) (rest := []) ⟨hx, hb, hml, hown, hts⟩ (c_X9_alarms l E xa na ma mb ad tx ln (nI ((m_n nx + 1) % 6)) (nI (if m_n ct < 6 then m_n ct + 1 else 6)) f0 f1 (m_tripC g n p (m_n n)) ga gb (va_up v (m_n nx) g) hw_1) (cwV 0 hts gL_travels_X9_alarms rfl rfl rfl (by decide +kernel) ⟨Nat.le_of_ble_eq_true rfl, Nat.le_of_ble_eq_true rfl⟩) ⟨zPr.blind, va_recv hK.1 hPc (ci := 8) (q0 := 0) rfl rfl, z_prer hK hPc⟩ rfl rfl hl.1 rfl (lv_room (Nat.le_of_ble_eq_true rfl)) dL_travels_100 ⟨Nat.le_of_ble_eq_true rfl, Nat.le_of_ble_eq_true rfl⟩) ?_
  refine W.eq (g2 := F0 Mi 103 ls [.int ((m_tripC g n p (m_n n)) 12)]) rfl ?_
  refine lv_iload hx hb dL_travels_103 (lv_at hl 0 rfl) ?_
  refine lv_icmp_lt (tgt := 123) hx hb dL_travels_105 (by decide) (fun h9 => absurd h9 (t_12a hT5 hg hc)) (fun _ => ?_)
  refine lv_aload_n hx hb dL_travels_108 rfl (lv_at hl 7 rfl) ?_
  have hPc : va_P E.1 vwCl ([(z_W E xa na ma mb ad tx ln (nI ((m_n nx + 1) % 6)) (nI (if m_n ct < 6 then m_n ct + 1 else 6)) f0 f1 (m_tripC g n p (m_n n)) ga gb (va_up v (m_n nx) g)).flatten] : List va_W).flatten H := zf_sub hP [0] rfl
  refine z_rdv (va_runV (As := []) (rest := []) ⟨hx, hb, hml, hown, hts⟩ (c_X9_alarms l E xa na ma mb ad tx ln (nI ((m_n nx + 1) % 6)) (nI (if m_n ct < 6 then m_n ct + 1 else 6)) f0 f1 (m_tripC g n p (m_n n)) ga gb (va_up v (m_n nx) g) hw_1) (cwV 0 hts gL_travels_X9_alarms rfl rfl rfl (by decide +kernel) ⟨Nat.le_of_ble_eq_true rfl, Nat.le_of_ble_eq_true rfl⟩) ⟨zPr.blind, va_recv hK.1 hPc (ci := 8) (q0 := 0) rfl rfl, z_prer hK hPc⟩ rfl rfl hl.1 rfl (lv_room (Nat.le_of_ble_eq_true rfl)) dL_travels_109 ⟨Nat.le_of_ble_eq_true rfl, Nat.le_of_ble_eq_true rfl⟩) ?_
  refine W.eq (g2 := F0 Mi 112 ls [.int ((m_tripC g n p (m_n n)) 12)]) rfl ?_
  refine lv_iload hx hb dL_travels_112 (lv_at hl 0 rfl) ?_
  refine lv_iload_n hx hb dL_travels_114 rfl (lv_at hl 8 rfl) ?_
  refine lv_iadd hx hb dL_travels_115 ?_
  refine lv_icmp_gt (tgt := 123) hx hb dL_travels_116 (by decide) (fun h9 => absurd h9 (t_12b hT5 hg hc)) (fun _ => ?_)
  refine lv_iconst (v := 1) hx hb dL_travels_119 (by decide) ?_
  refine lv_goto (tgt := 124) hx hb dL_travels_120 (by decide) ?_
  refine lv_istore (lv' := [(10, .int 1), (9, .int (g 12)), (8, .int (g 4)), (7, .int (g 1)), (6, .int (g 8)), (5, .int (g 7)), (4, .int (m_ascR g n p (m_n n))), (3, .int (m_hatC g p)), (0, .ref (xa 0)), (1, .int n), (2, .int p)]) hx hb dL_travels_124 hl (by decide) rfl (fun ls hl => ?_)
  refine lv_iload hx hb dL_travels_126 (lv_at hl 0 rfl) ?_
  refine lv_if_eq (tgt := 181) hx hb dL_travels_128 (by decide) (fun h9 => absurd h9 ((by decide))) (fun _ => ?_)
  refine lv_aload_n hx hb dL_travels_131 rfl (lv_at hl 8 rfl) ?_
  have hPc : va_P E.1 vwCl ([(z_W E xa na ma mb ad tx ln (nI ((m_n nx + 1) % 6)) (nI (if m_n ct < 6 then m_n ct + 1 else 6)) f0 f1 (m_tripC g n p (m_n n)) ga gb (va_up v (m_n nx) g)).flatten] : List va_W).flatten H := zf_sub hP [0] rfl
  refine z_rdv (va_runV (As := []) (rest := []) ⟨hx, hb, hml, hown, hts⟩ (c_X9_isStation l E xa na ma mb ad tx ln (nI ((m_n nx + 1) % 6)) (nI (if m_n ct < 6 then m_n ct + 1 else 6)) f0 f1 (m_tripC g n p (m_n n)) ga gb (va_up v (m_n nx) g) hw_1) (cwV 0 hts gL_travels_X9_isStation rfl rfl rfl (by decide +kernel) ⟨Nat.le_of_ble_eq_true rfl, Nat.le_of_ble_eq_true rfl⟩) ⟨zPr.blind, va_recv hK.1 hPc (ci := 8) (q0 := 0) rfl rfl, z_prer hK hPc⟩ rfl rfl hl.1 rfl (lv_room (Nat.le_of_ble_eq_true rfl)) dL_travels_132 ⟨Nat.le_of_ble_eq_true rfl, Nat.le_of_ble_eq_true rfl⟩) ?_
  refine W.eq (g2 := F0 Mi 135 ls [.int ((m_tripC g n p (m_n n)) 2)]) rfl ?_
  refine lv_if_eq (tgt := 159) hx hb dL_travels_135 (by decide) (fun c_135 => ?_) (fun c_135 => ?_)
  · refine lv_aload_n hx hb dL_travels_159 rfl (lv_at hl 8 rfl) ?_
    have hPc : va_P E.1 vwCl ([(z_W E xa na ma mb ad tx ln (nI ((m_n nx + 1) % 6)) (nI (if m_n ct < 6 then m_n ct + 1 else 6)) f0 f1 (m_tripC g n p (m_n n)) ga gb (va_up v (m_n nx) g)).flatten] : List va_W).flatten H := zf_sub hP [0] rfl
    refine z_rdv (va_runV (As := []) (rest := []) ⟨hx, hb, hml, hown, hts⟩ (c_X9_sea l E xa na ma mb ad tx ln (nI ((m_n nx + 1) % 6)) (nI (if m_n ct < 6 then m_n ct + 1 else 6)) f0 f1 (m_tripC g n p (m_n n)) ga gb (va_up v (m_n nx) g) hw_1) (cwV 0 hts gL_travels_X9_sea rfl rfl rfl (by decide +kernel) ⟨Nat.le_of_ble_eq_true rfl, Nat.le_of_ble_eq_true rfl⟩) ⟨zPr.blind, va_recv hK.1 hPc (ci := 8) (q0 := 0) rfl rfl, z_prer hK hPc⟩ rfl rfl hl.1 rfl (lv_room (Nat.le_of_ble_eq_true rfl)) dL_travels_160 ⟨Nat.le_of_ble_eq_true rfl, Nat.le_of_ble_eq_true rfl⟩) ?_
    refine W.eq (g2 := F0 Mi 163 ls [.int ((m_tripC g n p (m_n n)) 1)]) rfl ?_
    refine lv_iload hx hb dL_travels_163 (lv_at hl 3 rfl) ?_
    refine lv_icmp_ne (tgt := 181) hx hb dL_travels_165 (by decide) (fun h9 => absurd (t_mv1 (t_2.symm.trans c_135)) h9) (fun _ => ?_)
    refine lv_aload_n hx hb dL_travels_168 rfl (lv_at hl 8 rfl) ?_
    have hPc : va_P E.1 vwCl ([(z_W E xa na ma mb ad tx ln (nI ((m_n nx + 1) % 6)) (nI (if m_n ct < 6 then m_n ct + 1 else 6)) f0 f1 (m_tripC g n p (m_n n)) ga gb (va_up v (m_n nx) g)).flatten] : List va_W).flatten H := zf_sub hP [0] rfl
    refine z_rdv (va_runV (As := []) (rest := []) ⟨hx, hb, hml, hown, hts⟩ (c_X9_descent l E xa na ma mb ad tx ln (nI ((m_n nx + 1) % 6)) (nI (if m_n ct < 6 then m_n ct + 1 else 6)) f0 f1 (m_tripC g n p (m_n n)) ga gb (va_up v (m_n nx) g) hw_1) (cwV 0 hts gL_travels_X9_descent rfl rfl rfl (by decide +kernel) ⟨Nat.le_of_ble_eq_true rfl, Nat.le_of_ble_eq_true rfl⟩) ⟨zPr.blind, va_recv hK.1 hPc (ci := 8) (q0 := 0) rfl rfl, z_prer hK hPc⟩ rfl rfl hl.1 rfl (lv_room (Nat.le_of_ble_eq_true rfl)) dL_travels_169 ⟨Nat.le_of_ble_eq_true rfl, Nat.le_of_ble_eq_true rfl⟩) ?_
    refine W.eq (g2 := F0 Mi 172 ls [.int ((m_tripC g n p (m_n n)) 8)]) rfl ?_
    refine lv_iload hx hb dL_travels_172 (lv_at hl 4 rfl) ?_
    refine lv_icmp_lt (tgt := 181) hx hb dL_travels_174 (by decide) (fun h9 => absurd h9 (t_mv8 hT5 hg hc)) (fun _ => ?_)
    refine lv_iconst (v := 1) hx hb dL_travels_177 (by decide) ?_
    refine lv_goto (tgt := 182) hx hb dL_travels_178 (by decide) ?_
    have hP : va_P E.1 vwCl ([(z_W E xa na ma mb ad tx ln (nI ((m_n nx + 1) % 6)) (nI (if m_n ct < 6 then m_n ct + 1 else 6)) f0 f1 (m_tripC g n p (m_n n)) ga gb (va_up v (m_n nx) g)).flatten] : List va_W).flatten H := zf_sub hP [0] rfl
    have hD : va_D A ([(z_W E xa na ma mb ad tx ln (nI ((m_n nx + 1) % 6)) (nI (if m_n ct < 6 then m_n ct + 1 else 6)) f0 f1 (m_tripC g n p (m_n n)) ga gb (va_up v (m_n nx) g)).flatten] : List va_W).flatten := zf_subD hD [0] (by decide) rfl
    refine vx_ret ?_
    exact W.zret (v := 1) hx hb hr rfl (z_ende trivial hP hD hS rfl) hS.2.2 dL_travels_182 hlocks
  · refine lv_aload_n hx hb dL_travels_138 rfl (lv_at hl 8 rfl) ?_
    have hPc : va_P E.1 vwCl ([(z_W E xa na ma mb ad tx ln (nI ((m_n nx + 1) % 6)) (nI (if m_n ct < 6 then m_n ct + 1 else 6)) f0 f1 (m_tripC g n p (m_n n)) ga gb (va_up v (m_n nx) g)).flatten] : List va_W).flatten H := zf_sub hP [0] rfl
    refine z_rdv (va_runV (As := []) (rest := []) ⟨hx, hb, hml, hown, hts⟩ (c_X9_ascent l E xa na ma mb ad tx ln (nI ((m_n nx + 1) % 6)) (nI (if m_n ct < 6 then m_n ct + 1 else 6)) f0 f1 (m_tripC g n p (m_n n)) ga gb (va_up v (m_n nx) g) hw_1) (cwV 0 hts gL_travels_X9_ascent rfl rfl rfl (by decide +kernel) ⟨Nat.le_of_ble_eq_true rfl, Nat.le_of_ble_eq_true rfl⟩) ⟨zPr.blind, va_recv hK.1 hPc (ci := 8) (q0 := 0) rfl rfl, z_prer hK hPc⟩ rfl rfl hl.1 rfl (lv_room (Nat.le_of_ble_eq_true rfl)) dL_travels_139 ⟨Nat.le_of_ble_eq_true rfl, Nat.le_of_ble_eq_true rfl⟩) ?_
    refine W.eq (g2 := F0 Mi 142 ls [.int ((m_tripC g n p (m_n n)) 7)]) rfl ?_
    refine lv_iload hx hb dL_travels_142 (lv_at hl 5 rfl) ?_
    refine lv_icmp_ne (tgt := 181) hx hb dL_travels_144 (by decide) (fun h9 => absurd ((t_st7 hg hc (fun z => c_135 (t_2.trans z))).1) h9) (fun _ => ?_)
    refine lv_aload_n hx hb dL_travels_147 rfl (lv_at hl 8 rfl) ?_
    have hPc : va_P E.1 vwCl ([(z_W E xa na ma mb ad tx ln (nI ((m_n nx + 1) % 6)) (nI (if m_n ct < 6 then m_n ct + 1 else 6)) f0 f1 (m_tripC g n p (m_n n)) ga gb (va_up v (m_n nx) g)).flatten] : List va_W).flatten H := zf_sub hP [0] rfl
    refine z_rdv (va_runV (As := []) (rest := []) ⟨hx, hb, hml, hown, hts⟩ (c_X9_descent l E xa na ma mb ad tx ln (nI ((m_n nx + 1) % 6)) (nI (if m_n ct < 6 then m_n ct + 1 else 6)) f0 f1 (m_tripC g n p (m_n n)) ga gb (va_up v (m_n nx) g) hw_1) (cwV 0 hts gL_travels_X9_descent rfl rfl rfl (by decide +kernel) ⟨Nat.le_of_ble_eq_true rfl, Nat.le_of_ble_eq_true rfl⟩) ⟨zPr.blind, va_recv hK.1 hPc (ci := 8) (q0 := 0) rfl rfl, z_prer hK hPc⟩ rfl rfl hl.1 rfl (lv_room (Nat.le_of_ble_eq_true rfl)) dL_travels_148 ⟨Nat.le_of_ble_eq_true rfl, Nat.le_of_ble_eq_true rfl⟩) ?_
    refine W.eq (g2 := F0 Mi 151 ls [.int ((m_tripC g n p (m_n n)) 8)]) rfl ?_
    refine lv_iload hx hb dL_travels_151 (lv_at hl 4 rfl) ?_
    refine lv_icmp_ne (tgt := 181) hx hb dL_travels_153 (by decide) (fun h9 => absurd ((t_st7 hg hc (fun z => c_135 (t_2.trans z))).2) h9) (fun _ => ?_)
    refine lv_goto (tgt := 177) hx hb dL_travels_156 (by decide) ?_
    refine lv_iconst (v := 1) hx hb dL_travels_177 (by decide) ?_
    refine lv_goto (tgt := 182) hx hb dL_travels_178 (by decide) ?_
    have hP : va_P E.1 vwCl ([(z_W E xa na ma mb ad tx ln (nI ((m_n nx + 1) % 6)) (nI (if m_n ct < 6 then m_n ct + 1 else 6)) f0 f1 (m_tripC g n p (m_n n)) ga gb (va_up v (m_n nx) g)).flatten] : List va_W).flatten H := zf_sub hP [0] rfl
    have hD : va_D A ([(z_W E xa na ma mb ad tx ln (nI ((m_n nx + 1) % 6)) (nI (if m_n ct < 6 then m_n ct + 1 else 6)) f0 f1 (m_tripC g n p (m_n n)) ga gb (va_up v (m_n nx) g)).flatten] : List va_W).flatten := zf_subD hD [0] (by decide) rfl
    refine vx_ret ?_
    exact W.zret (v := 1) hx hb hr rfl (z_ende trivial hP hD hS rfl) hS.2.2 dL_travels_182 hlocks
