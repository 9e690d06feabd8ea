set_option maxHeartbeats 4000000 in
set_option maxRecDepth 100000 in
theorem c_L_isClimbing (l : Launch) (E : zE) (sa : Nat → Nat) (hl0 : l.stackTraces = false) {b L fr : Nat} {xs : Nat → Int32} (hL : L ≤ 260) (hfr : fr ≤ 100) : zMS l yL_isClimbing wsL_isClimbing ({ frames := 9, cells := 143, slots := 1463, locals := 182 }) E sa b L xs [.ref b, .int (nI fr)] (some (.int 1)) 143 1463 := by
  refine z_startS (cc := cL_isClimbing) (maxL := 6) (ret := (some .boolean)) (by decide) rfl (Nat.le_of_ble_eq_true rfl) ?_
  intro Pg En s Mi below meth Cd A hx hb hr hts hown hlocks hml hnt hA hT hZ H hH hP hK hD hS hX hbl hbA ls hl
  have hl : lv_has ls 6 [(0, .ref b), (1, .int (nI fr))] := hl
  have hi_X9 : ∀ w ∈ wsX90, w ∈ wsL_isClimbing := by decide +kernel
  have LOOP_39 : ∀ (kz : Nat) (k : Nat) (xa na ma mb : Nat → Nat) (ad : Nat → Nat → Nat) (nx ct : Int32) (g : Nat → Int32) (v : Nat → Nat → Int32), 9 < k + kz → 1 ≤ k → k ≤ 9 → z_wk 0 nx ct 0 0 g m_g0 m_g0 v → z_g (120 * k) g → z_cl g →  ∀ (H : Heap) (locs : List Loc), va_P E.1 vwCl ([(z_W E xa na ma mb ad (fun _ => 0) 0 nx ct 0 0 g m_g0 m_g0 v).flatten] : List va_W).flatten H → va_D A ([(z_W E xa na ma mb ad (fun _ => 0) 0 nx ct 0 0 g m_g0 m_g0 v).flatten] : List va_W).flatten → va_S A s.heap H locs → ∀ (ls : Array Slot), lv_has ls 6 [(0, .ref b), (1, .int (nI fr)), (2, .ref (xa 0)), (3, .int 1), (4, .int (nI k))] → W Pg l En ({ frames := 9, cells := 143, slots := 1463, locals := 182 } : Room) s Mi ([.ref b, .int (nI fr)] : List Value).toArray below meth Cd H locs (7 * k + 80) (40 * k + 1103) (vx_MQ below (zQ (some (.int 1)) (fun H => (True) ∧ zB E ([] : List va_W).flatten A H) A) (zXC E ([] : List va_W).flatten (fun _ => False) A) ([.ref b, .int (nI fr)] : List Value).toArray s 143 1463 A) (F0 Mi 39 ls []) := by
    intro kz
    induction kz with
    | zero => intro k xa na ma mb ad nx ct g v h1 h2 h3 hw hg hcl; exact absurd h1 (by omega)
    | succ kz ih =>
      intro k xa na ma mb ad nx ct g v h1 h2 h3 hw hg hcl H locs hP hD hS ls hl
      refine lv_iload hx hb dL_isClimbing_39 (lv_at hl 4 rfl) ?_
      refine lv_bipush (v := 9) hx hb dL_isClimbing_41 (by decide) ?_
      refine lv_icmp_ge (tgt := 118) hx hb dL_isClimbing_43 (by decide) (fun c_43 => ?_) (fun c_43 => ?_)
      · refine lv_iload_n hx hb dL_isClimbing_118 rfl (lv_at hl 3 rfl) ?_
        refine W.widen (k := 143) (n := 1463) (by omega) (by omega) ?_
        have hP : va_P E.1 vwCl ([] : List va_W).flatten H := zf_sub hP [] rfl
        have hD : va_D A ([] : List va_W).flatten := zf_subD hD [] (by decide) rfl
        refine vx_ret ?_
        exact W.zret (v := 1) hx hb hr rfl (z_ende trivial hP hD hS rfl) hS.2.2 dL_isClimbing_119 hlocks
      · have hk9 : k < 9 := nI_nlen (a := 9) (b := k) (by decide) (by omega) c_43
        refine lv_iload_n hx hb dL_isClimbing_46 rfl (lv_at hl 3 rfl) ?_
        refine lv_if_eq (tgt := 118) hx hb dL_isClimbing_47 (by decide) (fun h9 => absurd h9 ((by decide))) (fun _ => ?_)
        refine lv_aload_n hx hb dL_isClimbing_50 rfl (lv_at hl 0 rfl) ?_
        refine lv_iload_n hx hb dL_isClimbing_51 rfl (lv_at hl 1 rfl) ?_
        refine lv_iload hx hb dL_isClimbing_52 (lv_at hl 4 rfl) ?_
        refine lv_iadd hx hb dL_isClimbing_54 ?_
        refine z_topi (y := nI (fr + k)) (nI_add fr k) ?_
        refine z_rdv (va_runS (As := [.ref b, .int (nI (fr + k))]) (rest := []) ⟨hx, hb, hml, hown, hts⟩ (c_L_cell l (k := (fr + k)) (xs := xs) hL (by omega)) (va_cwS 2 hts gL_isClimbing_L_cell rfl rfl rfl (by decide +kernel) ⟨Nat.le_of_ble_eq_true rfl, Nat.le_of_ble_eq_true rfl⟩) ⟨zRs.blind, z_prers hX hbl hbA hS⟩ rfl rfl hl.1 rfl (lv_room (Nat.le_of_ble_eq_true rfl)) dL_isClimbing_55 ⟨(by show _ ≤ 143; omega), (by show _ ≤ 1463; omega)⟩) ?_
        refine W.eq (g2 := F0 Mi 58 ls [.int (a_ce L xs (fr + k))]) rfl ?_
        refine lv_istore (lv' := [(5, .int (a_ce L xs (fr + k))), (0, .ref b), (1, .int (nI fr)), (2, .ref (xa 0)), (3, .int 1), (4, .int (nI k))]) hx hb dL_isClimbing_58 hl (by decide) rfl (fun ls hl => ?_)
        refine lv_aload_n hx hb dL_isClimbing_60 rfl (lv_at hl 3 rfl) ?_
        refine lv_iconst (v := 1) hx hb dL_isClimbing_61 (by decide) ?_
        refine lv_iload hx hb dL_isClimbing_62 (lv_at hl 0 rfl) ?_
        refine lv_bipush (v := 20) hx hb dL_isClimbing_64 (by decide) ?_
        refine z_rdv (va_runS (As := [.int (a_ce L xs (fr + k)), .int 20]) (rest := [.int 1, .ref (xa 0)]) ⟨hx, hb, hml, hown, hts⟩ (c_L_up l E (a_ce L xs (fr + k)) 20 (by decide)) (va_cwS 2 hts gL_isClimbing_L_up rfl rfl rfl (by decide +kernel) ⟨Nat.le_of_ble_eq_true rfl, Nat.le_of_ble_eq_true rfl⟩) ⟨zPr.blind, z_prer hK zP_nil⟩ rfl rfl hl.1 rfl (lv_room (Nat.le_of_ble_eq_true rfl)) dL_isClimbing_66 ⟨(by show _ ≤ 143; omega), (by show _ ≤ 1463; omega)⟩) ?_
        refine W.eq (g2 := F0 Mi 69 ls [.int (a_up (a_ce L xs (fr + k)) 20), .int 1, .ref (xa 0)]) rfl ?_
        refine lv_iadd hx hb dL_isClimbing_69 ?_
        refine lv_sipush (v := 5000) hx hb dL_isClimbing_70 (by decide) ?_
        refine lv_iload hx hb dL_isClimbing_73 (lv_at hl 0 rfl) ?_
        refine lv_iconst (v := 5) hx hb dL_isClimbing_75 (by decide) ?_
        refine lv_ishr hx hb dL_isClimbing_76 ?_
        refine lv_sipush (v := 6001) hx hb dL_isClimbing_77 (by decide) ?_
        refine z_rdv (va_runS (As := [.int ((a_ce L xs (fr + k)) >>> (5 &&& 31)), .int 6001]) (rest := [.int 5000, .int (1 + (a_up (a_ce L xs (fr + k)) 20)), .ref (xa 0)]) ⟨hx, hb, hml, hown, hts⟩ (c_L_up l E ((a_ce L xs (fr + k)) >>> (5 &&& 31)) 6001 (by decide)) (va_cwS 2 hts gL_isClimbing_L_up rfl rfl rfl (by decide +kernel) ⟨Nat.le_of_ble_eq_true rfl, Nat.le_of_ble_eq_true rfl⟩) ⟨zPr.blind, z_prer hK zP_nil⟩ rfl rfl hl.1 rfl (lv_room (Nat.le_of_ble_eq_true rfl)) dL_isClimbing_80 ⟨(by show _ ≤ 143; omega), (by show _ ≤ 1463; omega)⟩) ?_
        refine W.eq (g2 := F0 Mi 83 ls [.int (a_up ((a_ce L xs (fr + k)) >>> (5 &&& 31)) 6001), .int 5000, .int (1 + (a_up (a_ce L xs (fr + k)) 20)), .ref (xa 0)]) rfl ?_
        refine lv_iadd hx hb dL_isClimbing_83 ?_
        have hPc : va_P E.1 vwCl ([(z_W E xa na ma mb ad (fun _ => 0) 0 nx ct 0 0 g m_g0 m_g0 v).flatten] : List va_W).flatten H := zf_sub hP [0] rfl
        have hDc : va_D A ([(z_W E xa na ma mb ad (fun _ => 0) 0 nx ct 0 0 g m_g0 m_g0 v).flatten] : List va_W).flatten := zf_subD hD [0] (by decide) rfl
        refine z_xmut (Sc := [(z_W E xa na ma mb ad (fun _ => 0) 0 nx ct 0 0 g m_g0 m_g0 v).flatten]) (Sr := []) (W1 := [(z_W E xa na ma mb ad (fun _ => 0) 0 (nI ((m_n nx + 1) % 6)) (nI (if m_n ct < 6 then m_n ct + 1 else 6)) 0 0 (m_tripC g (1 + (a_up (a_ce L xs (fr + k)) 20)) ((5000 : Int32) + (a_up ((a_ce L xs (fr + k)) >>> (5 &&& 31)) 6001)) (m_n (1 + (a_up (a_ce L xs (fr + k)) 20)))) m_g0 m_g0 (va_up v (m_n nx) g)).flatten]) (vx_runS (As := [.ref (xa 0), .int (1 + (a_up (a_ce L xs (fr + k)) 20)), .int ((5000 : Int32) + (a_up ((a_ce L xs (fr + k)) >>> (5 &&& 31)) 6001))]) (rest := []) ⟨hx, hb, hml, hown, hts⟩ (c_L_travels l E sa hl0 xa na ma mb ad (fun _ => 0) 0 nx ct 0 0 g m_g0 m_g0 v hw hg (by omega) (1 + (a_up (a_ce L xs (fr + k)) 20)) ((5000 : Int32) + (a_up ((a_ce L xs (fr + k)) >>> (5 &&& 31)) 6001)) (c_trp _ _) H.size) (va_cwS 3 hts gL_isClimbing_L_travels rfl rfl rfl (by decide +kernel) ⟨Nat.le_of_ble_eq_true rfl, Nat.le_of_ble_eq_true rfl⟩) ⟨zPE.blind, z_preE hK hT hZ hS (zf_free hD hS hA [0] rfl) hPc hDc⟩ rfl rfl hl.1 rfl (lv_room (Nat.le_of_ble_eq_true rfl)) dL_isClimbing_84 ⟨(by show _ ≤ 143; omega), (by show _ ≤ 1463; omega)⟩) hP hD hS hA [0] [] rfl rfl (by decide) (by decide) (fun Ex ce q9 H locs hps hP hD hS hce hcv hcl => hps.elim) (fun H locs _ hP hD hS => ?_)
        have hP : va_P E.1 vwCl ([(z_W E xa na ma mb ad (fun _ => 0) 0 (nI ((m_n nx + 1) % 6)) (nI (if m_n ct < 6 then m_n ct + 1 else 6)) 0 0 (m_tripC g (1 + (a_up (a_ce L xs (fr + k)) 20)) ((5000 : Int32) + (a_up ((a_ce L xs (fr + k)) >>> (5 &&& 31)) 6001)) (m_n (1 + (a_up (a_ce L xs (fr + k)) 20)))) m_g0 m_g0 (va_up v (m_n nx) g)).flatten] : List va_W).flatten H := hP
        have hD : va_D A ([(z_W E xa na ma mb ad (fun _ => 0) 0 (nI ((m_n nx + 1) % 6)) (nI (if m_n ct < 6 then m_n ct + 1 else 6)) 0 0 (m_tripC g (1 + (a_up (a_ce L xs (fr + k)) 20)) ((5000 : Int32) + (a_up ((a_ce L xs (fr + k)) >>> (5 &&& 31)) 6001)) (m_n (1 + (a_up (a_ce L xs (fr + k)) 20)))) m_g0 m_g0 (va_up v (m_n nx) g)).flatten] : List va_W).flatten := hD
        have hg1 : z_g (120 * (k + 1)) (m_tripC g (1 + (a_up (a_ce L xs (fr + k)) 20)) ((5000 : Int32) + (a_up ((a_ce L xs (fr + k)) >>> (5 &&& 31)) 6001)) (m_n (1 + (a_up (a_ce L xs (fr + k)) 20)))) := z_g_up (t_g hg (c_trp _ _)) (by omega)
        have hcl1 : z_cl (m_tripC g (1 + (a_up (a_ce L xs (fr + k)) 20)) ((5000 : Int32) + (a_up ((a_ce L xs (fr + k)) >>> (5 &&& 31)) 6001)) (m_n (1 + (a_up (a_ce L xs (fr + k)) 20)))) := z_cl_trip hcl _
        have hw1 : z_wk 0 (nI ((m_n nx + 1) % 6)) (nI (if m_n ct < 6 then m_n ct + 1 else 6)) 0 0 (m_tripC g (1 + (a_up (a_ce L xs (fr + k)) 20)) ((5000 : Int32) + (a_up ((a_ce L xs (fr + k)) >>> (5 &&& 31)) 6001)) (m_n (1 + (a_up (a_ce L xs (fr + k)) 20)))) m_g0 m_g0 (va_up v (m_n nx) g) := z_wk_save hw (show z_ok (m_tripC g (1 + (a_up (a_ce L xs (fr + k)) 20)) ((5000 : Int32) + (a_up ((a_ce L xs (fr + k)) >>> (5 &&& 31)) 6001)) (m_n (1 + (a_up (a_ce L xs (fr + k)) 20)))) from z_ok_trip hw.1 _)
        refine W.eq (g2 := F0 Mi 87 ls [.int 1]) rfl ?_
        refine lv_if_eq (tgt := 110) hx hb dL_isClimbing_87 (by decide) (fun h9 => absurd h9 ((by decide))) (fun _ => ?_)
        refine lv_aload_n hx hb dL_isClimbing_90 rfl (lv_at hl 3 rfl) ?_
        have hPc : va_P E.1 vwCl ([(z_W E xa na ma mb ad (fun _ => 0) 0 (nI ((m_n nx + 1) % 6)) (nI (if m_n ct < 6 then m_n ct + 1 else 6)) 0 0 (m_tripC g (1 + (a_up (a_ce L xs (fr + k)) 20)) ((5000 : Int32) + (a_up ((a_ce L xs (fr + k)) >>> (5 &&& 31)) 6001)) (m_n (1 + (a_up (a_ce L xs (fr + k)) 20)))) m_g0 m_g0 (va_up v (m_n nx) g)).flatten] : List va_W).flatten H := zf_sub hP [0] rfl
        refine z_rdv (va_runV (As := []) (rest := []) ⟨hx, hb, hml, hown, hts⟩ (c_X9_base l E xa na ma mb ad (fun _ => 0) 0 (nI ((m_n nx + 1) % 6)) (nI (if m_n ct < 6 then m_n ct + 1 else 6)) 0 0 (m_tripC g (1 + (a_up (a_ce L xs (fr + k)) 20)) ((5000 : Int32) + (a_up ((a_ce L xs (fr + k)) >>> (5 &&& 31)) 6001)) (m_n (1 + (a_up (a_ce L xs (fr + k)) 20)))) m_g0 m_g0 (va_up v (m_n nx) g) hw1) (cwV 0 hts gL_isClimbing_X9_base rfl rfl rfl (by decide +kernel) ⟨Nat.le_of_ble_eq_true rfl, Nat.le_of_ble_eq_true rfl⟩) ⟨zPr.blind, va_recv hK.1 hPc (ci := 8) (q0 := 0) rfl rfl, z_prer hK hPc⟩ rfl rfl hl.1 rfl (lv_room (Nat.le_of_ble_eq_true rfl)) dL_isClimbing_91 ⟨(by show _ ≤ 143; omega), (by show _ ≤ 1463; omega)⟩) ?_
        refine W.eq (g2 := F0 Mi 94 ls [.int ((m_tripC g (1 + (a_up (a_ce L xs (fr + k)) 20)) ((5000 : Int32) + (a_up ((a_ce L xs (fr + k)) >>> (5 &&& 31)) 6001)) (m_n (1 + (a_up (a_ce L xs (fr + k)) 20)))) 9)]) rfl ?_
        refine lv_aload_n hx hb dL_isClimbing_94 rfl (lv_at hl 3 rfl) ?_
        have hPc : va_P E.1 vwCl ([(z_W E xa na ma mb ad (fun _ => 0) 0 (nI ((m_n nx + 1) % 6)) (nI (if m_n ct < 6 then m_n ct + 1 else 6)) 0 0 (m_tripC g (1 + (a_up (a_ce L xs (fr + k)) 20)) ((5000 : Int32) + (a_up ((a_ce L xs (fr + k)) >>> (5 &&& 31)) 6001)) (m_n (1 + (a_up (a_ce L xs (fr + k)) 20)))) m_g0 m_g0 (va_up v (m_n nx) g)).flatten] : List va_W).flatten H := zf_sub hP [0] rfl
        refine z_rdv (va_runV (As := []) (rest := [.int ((m_tripC g (1 + (a_up (a_ce L xs (fr + k)) 20)) ((5000 : Int32) + (a_up ((a_ce L xs (fr + k)) >>> (5 &&& 31)) 6001)) (m_n (1 + (a_up (a_ce L xs (fr + k)) 20)))) 9)]) ⟨hx, hb, hml, hown, hts⟩ (c_X9_ascent l E xa na ma mb ad (fun _ => 0) 0 (nI ((m_n nx + 1) % 6)) (nI (if m_n ct < 6 then m_n ct + 1 else 6)) 0 0 (m_tripC g (1 + (a_up (a_ce L xs (fr + k)) 20)) ((5000 : Int32) + (a_up ((a_ce L xs (fr + k)) >>> (5 &&& 31)) 6001)) (m_n (1 + (a_up (a_ce L xs (fr + k)) 20)))) m_g0 m_g0 (va_up v (m_n nx) g) hw1) (cwV 0 hts gL_isClimbing_X9_ascent rfl rfl rfl (by decide +kernel) ⟨Nat.le_of_ble_eq_true rfl, Nat.le_of_ble_eq_true rfl⟩) ⟨zPr.blind, va_recv hK.1 hPc (ci := 8) (q0 := 0) rfl rfl, z_prer hK hPc⟩ rfl rfl hl.1 rfl (lv_room (Nat.le_of_ble_eq_true rfl)) dL_isClimbing_95 ⟨(by show _ ≤ 143; omega), (by show _ ≤ 1463; omega)⟩) ?_
        refine W.eq (g2 := F0 Mi 98 ls [.int ((m_tripC g (1 + (a_up (a_ce L xs (fr + k)) 20)) ((5000 : Int32) + (a_up ((a_ce L xs (fr + k)) >>> (5 &&& 31)) 6001)) (m_n (1 + (a_up (a_ce L xs (fr + k)) 20)))) 7), .int ((m_tripC g (1 + (a_up (a_ce L xs (fr + k)) 20)) ((5000 : Int32) + (a_up ((a_ce L xs (fr + k)) >>> (5 &&& 31)) 6001)) (m_n (1 + (a_up (a_ce L xs (fr + k)) 20)))) 9)]) rfl ?_
        refine lv_aload_n hx hb dL_isClimbing_98 rfl (lv_at hl 3 rfl) ?_
        have hPc : va_P E.1 vwCl ([(z_W E xa na ma mb ad (fun _ => 0) 0 (nI ((m_n nx + 1) % 6)) (nI (if m_n ct < 6 then m_n ct + 1 else 6)) 0 0 (m_tripC g (1 + (a_up (a_ce L xs (fr + k)) 20)) ((5000 : Int32) + (a_up ((a_ce L xs (fr + k)) >>> (5 &&& 31)) 6001)) (m_n (1 + (a_up (a_ce L xs (fr + k)) 20)))) m_g0 m_g0 (va_up v (m_n nx) g)).flatten] : List va_W).flatten H := zf_sub hP [0] rfl
        refine z_rdv (va_runV (As := []) (rest := [.int ((m_tripC g (1 + (a_up (a_ce L xs (fr + k)) 20)) ((5000 : Int32) + (a_up ((a_ce L xs (fr + k)) >>> (5 &&& 31)) 6001)) (m_n (1 + (a_up (a_ce L xs (fr + k)) 20)))) 7), .int ((m_tripC g (1 + (a_up (a_ce L xs (fr + k)) 20)) ((5000 : Int32) + (a_up ((a_ce L xs (fr + k)) >>> (5 &&& 31)) 6001)) (m_n (1 + (a_up (a_ce L xs (fr + k)) 20)))) 9)]) ⟨hx, hb, hml, hown, hts⟩ (c_X9_descent l E xa na ma mb ad (fun _ => 0) 0 (nI ((m_n nx + 1) % 6)) (nI (if m_n ct < 6 then m_n ct + 1 else 6)) 0 0 (m_tripC g (1 + (a_up (a_ce L xs (fr + k)) 20)) ((5000 : Int32) + (a_up ((a_ce L xs (fr + k)) >>> (5 &&& 31)) 6001)) (m_n (1 + (a_up (a_ce L xs (fr + k)) 20)))) m_g0 m_g0 (va_up v (m_n nx) g) hw1) (cwV 0 hts gL_isClimbing_X9_descent rfl rfl rfl (by decide +kernel) ⟨Nat.le_of_ble_eq_true rfl, Nat.le_of_ble_eq_true rfl⟩) ⟨zPr.blind, va_recv hK.1 hPc (ci := 8) (q0 := 0) rfl rfl, z_prer hK hPc⟩ rfl rfl hl.1 rfl (lv_room (Nat.le_of_ble_eq_true rfl)) dL_isClimbing_99 ⟨(by show _ ≤ 143; omega), (by show _ ≤ 1463; omega)⟩) ?_
        refine W.eq (g2 := F0 Mi 102 ls [.int ((m_tripC g (1 + (a_up (a_ce L xs (fr + k)) 20)) ((5000 : Int32) + (a_up ((a_ce L xs (fr + k)) >>> (5 &&& 31)) 6001)) (m_n (1 + (a_up (a_ce L xs (fr + k)) 20)))) 8), .int ((m_tripC g (1 + (a_up (a_ce L xs (fr + k)) 20)) ((5000 : Int32) + (a_up ((a_ce L xs (fr + k)) >>> (5 &&& 31)) 6001)) (m_n (1 + (a_up (a_ce L xs (fr + k)) 20)))) 7), .int ((m_tripC g (1 + (a_up (a_ce L xs (fr + k)) 20)) ((5000 : Int32) + (a_up ((a_ce L xs (fr + k)) >>> (5 &&& 31)) 6001)) (m_n (1 + (a_up (a_ce L xs (fr + k)) 20)))) 9)]) rfl ?_
        refine lv_isub hx hb dL_isClimbing_102 ?_
        refine lv_icmp_ne (tgt := 110) hx hb dL_isClimbing_103 (by decide) (fun h9 => absurd (hcl1.2) h9) (fun _ => ?_)
        refine lv_iconst (v := 1) hx hb dL_isClimbing_106 (by decide) ?_
        refine lv_goto (tgt := 111) hx hb dL_isClimbing_107 (by decide) ?_
        refine lv_istore_n (lv' := [(3, .int 1), (5, .int (a_ce L xs (fr + k))), (0, .ref b), (1, .int (nI fr)), (2, .ref (xa 0)), (4, .int (nI k))]) hx hb dL_isClimbing_111 rfl hl (by decide) rfl (fun ls hl => ?_)
        refine lv_iinc (v := nI (k + 1)) (lv' := [(4, .int (nI (k + 1))), (3, .int 1), (5, .int (a_ce L xs (fr + k))), (0, .ref b), (1, .int (nI fr)), (2, .ref (xa 0))]) hx hb dL_isClimbing_112 hl (k := 5) rfl (nI_add k 1) (by decide) rfl (fun ls hl => ?_)
        refine lv_goto (tgt := 39) hx hb dL_isClimbing_115 (by decide) ?_
        refine W.widen (k := (7 * (k + 1) + 80)) (n := (40 * (k + 1) + 1103)) (by omega) (by omega) ?_
        exact ih (k + 1) xa na ma mb ad _ _ _ _ (by omega) (by omega) (by omega) hw1 hg1 hcl1 _ _ (zf_sub hP [0] rfl) (zf_subD hD [0] (by decide) rfl) hS ls (lv_sub hl [3, 4, 5, 1, 0] rfl)
  refine va_new (D := E.1) (ci := 8) (fs := [.null, .null, .null, .null, .null]) (C := RX9) (T := TX9) (N := 5) hx hb hts hi_X9 tyX9 tyX9_ok hown (hts (.classLink RL 16 RX9) (by decide +kernel)) (hts (.instantiable RX9 5) (by decide +kernel)) (hts (.initialized RX9) (by decide +kernel)) hK.1 hP hD hS hA rfl (fun j hj => by rcases (show j = 0 ∨ j = 1 ∨ j = 2 ∨ j = 3 ∨ j = 4 by omega) with rfl | rfl | rfl | rfl | rfl <;> rfl) (Nat.le_of_ble_eq_true rfl) (Nat.le_of_ble_eq_true rfl) dL_isClimbing_0 (fun q_0 H hP hD hS => ?_)
  have hP : va_P E.1 vwCl ([[(q_0, .inr (8, [.null, .null, .null, .null, .null]))]] : List va_W).flatten H := hP
  have hD : va_D A ([[(q_0, .inr (8, [.null, .null, .null, .null, .null]))]] : List va_W).flatten := hD
  refine W.widen (k := 1) (n := 5) (by decide) (by decide) ?_
  refine lv_dup hx hb dL_isClimbing_3 rfl ?_
  have hPc : va_P E.1 vwCl ([[(q_0, .inr (8, [.null, .null, .null, .null, .null]))]] : List va_W).flatten H := zf_sub hP [0] rfl
  have hDc : va_D A ([[(q_0, .inr (8, [.null, .null, .null, .null, .null]))]] : List va_W).flatten := zf_subD hD [0] (by decide) rfl
  refine z_mutx (Sc := [[(q_0, .inr (8, [.null, .null, .null, .null, .null]))]]) (Sr := []) (va_runI (As := []) (rest := [.ref q_0]) ⟨hx, hb, hml, hown, hts⟩ (c_X9_init2 l E q_0 H.size) (cwI 0 hts gL_isClimbing_X9_init rfl rfl rfl (hts (.initialized RX9) (by decide +kernel)) (hts (.methodLink RL 143 yX9_init) (by decide +kernel)) (hts (.instanceMethod yX9_init) (by decide +kernel)) rfl (by decide +kernel) ⟨Nat.le_of_ble_eq_true rfl, Nat.le_of_ble_eq_true rfl⟩) ⟨zP.blind, z_pre hK hPc hDc⟩ rfl rfl hl.1 rfl (lv_room (Nat.le_of_ble_eq_true rfl)) dL_isClimbing_4 ⟨Nat.le_of_ble_eq_true rfl, Nat.le_of_ble_eq_true rfl⟩) hP hD hS hA [0] [] rfl rfl (by decide) (by decide) (fun u H locs hP hD hS => ?_)
  obtain ⟨u1, na, ma, mb, ad⟩ := u
  have hP : va_P E.1 vwCl ([(z_W E (z_xa q_0 (u1 1) (u1 2) (u1 3) (u1 4) (u1 5) (u1 6)) na ma mb ad (fun _ => 0) 0 0 0 0 0 m_g0 m_g0 m_g0 (fun _ => m_g0)).flatten] : List va_W).flatten H := hP
  have hD : va_D A ([(z_W E (z_xa q_0 (u1 1) (u1 2) (u1 3) (u1 4) (u1 5) (u1 6)) na ma mb ad (fun _ => 0) 0 0 0 0 0 m_g0 m_g0 m_g0 (fun _ => m_g0)).flatten] : List va_W).flatten := hD
  refine W.widen (k := 79) (n := 1097) (by decide) (by decide) ?_
  obtain ⟨xa, exa⟩ : ∃ z : Nat → Nat, z = (z_xa q_0 (u1 1) (u1 2) (u1 3) (u1 4) (u1 5) (u1 6)) := ⟨_, rfl⟩
  have eq0 : q_0 = xa 0 := by rw [exa]; rfl
  subst eq0
  have hP : va_P E.1 vwCl ([(z_W E xa na ma mb ad (fun _ => 0) 0 0 0 0 0 m_g0 m_g0 m_g0 (fun _ => m_g0)).flatten] : List va_W).flatten H := by rw [exa]; exact hP
  have hD : va_D A ([(z_W E xa na ma mb ad (fun _ => 0) 0 0 0 0 0 m_g0 m_g0 m_g0 (fun _ => m_g0)).flatten] : List va_W).flatten := by rw [exa]; exact hD
  refine W.eq (g2 := F0 Mi 7 ls [.ref (xa 0)]) rfl ?_
  refine lv_astore_n (lv' := [(2, .ref (xa 0)), (0, .ref b), (1, .int (nI fr))]) hx hb dL_isClimbing_7 rfl hl (by decide) rfl (fun ls hl => ?_)
  refine lv_aload_n hx hb dL_isClimbing_8 rfl (lv_at hl 0 rfl) ?_
  refine lv_bipush (v := 10) hx hb dL_isClimbing_9 (by decide) ?_
  refine lv_aload_n hx hb dL_isClimbing_11 rfl (lv_at hl 1 rfl) ?_
  refine lv_iload_n hx hb dL_isClimbing_12 rfl (lv_at hl 2 rfl) ?_
  refine z_rdv (va_runS (As := [.ref b, .int (nI fr)]) (rest := [.int 10, .ref (xa 0)]) ⟨hx, hb, hml, hown, hts⟩ (c_L_cell l (k := fr) (xs := xs) hL (by omega)) (va_cwS 2 hts gL_isClimbing_L_cell rfl rfl rfl (by decide +kernel) ⟨Nat.le_of_ble_eq_true rfl, Nat.le_of_ble_eq_true rfl⟩) ⟨zRs.blind, z_prers hX hbl hbA hS⟩ rfl rfl hl.1 rfl (lv_room (Nat.le_of_ble_eq_true rfl)) dL_isClimbing_13 ⟨Nat.le_of_ble_eq_true rfl, Nat.le_of_ble_eq_true rfl⟩) ?_
  refine W.eq (g2 := F0 Mi 16 ls [.int (a_ce L xs fr), .int 10, .ref (xa 0)]) rfl ?_
  refine lv_bipush (v := 90) hx hb dL_isClimbing_16 (by decide) ?_
  refine z_rdv (va_runS (As := [.int (a_ce L xs fr), .int 90]) (rest := [.int 10, .ref (xa 0)]) ⟨hx, hb, hml, hown, hts⟩ (c_L_up l E (a_ce L xs fr) 90 (by decide)) (va_cwS 2 hts gL_isClimbing_L_up rfl rfl rfl (by decide +kernel) ⟨Nat.le_of_ble_eq_true rfl, Nat.le_of_ble_eq_true rfl⟩) ⟨zPr.blind, z_prer hK zP_nil⟩ rfl rfl hl.1 rfl (lv_room (Nat.le_of_ble_eq_true rfl)) dL_isClimbing_18 ⟨Nat.le_of_ble_eq_true rfl, Nat.le_of_ble_eq_true rfl⟩) ?_
  refine W.eq (g2 := F0 Mi 21 ls [.int (a_up (a_ce L xs fr) 90), .int 10, .ref (xa 0)]) rfl ?_
  refine lv_iadd hx hb dL_isClimbing_21 ?_
  have ph_22 : 10 ≤ (10 + (a_up (a_ce L xs fr) 90)) ∧ (10 + (a_up (a_ce L xs fr) 90)) ≤ 500 := c_thr _
  have hPc : va_P E.1 vwCl ([(z_W E xa na ma mb ad (fun _ => 0) 0 0 0 0 0 m_g0 m_g0 m_g0 (fun _ => m_g0)).flatten] : List va_W).flatten H := zf_sub hP [0] rfl
  have hDc : va_D A ([(z_W E xa na ma mb ad (fun _ => 0) 0 0 0 0 0 m_g0 m_g0 m_g0 (fun _ => m_g0)).flatten] : List va_W).flatten := zf_subD hD [0] (by decide) rfl
  refine z_xmut (Sc := [(z_W E xa na ma mb ad (fun _ => 0) 0 0 0 0 0 m_g0 m_g0 m_g0 (fun _ => m_g0)).flatten]) (Sr := []) (W1 := [(z_W E xa na ma mb ad (fun _ => 0) 0 (nI ((m_n 0 + 1) % 6)) (nI (if m_n 0 < 6 then m_n 0 + 1 else 6)) 0 0 (upd m_g0 10 (10 + (a_up (a_ce L xs fr) 90))) m_g0 m_g0 (va_up (fun _ => m_g0) (m_n 0) m_g0)).flatten]) (vx_runV (As := [.int (10 + (a_up (a_ce L xs fr) 90))]) (rest := []) ⟨hx, hb, hml, hown, hts⟩ (c_X9_setThreshold l E sa hl0 xa na ma mb ad (fun _ => 0) 0 0 0 0 0 m_g0 m_g0 m_g0 (fun _ => m_g0) z_wk0 (10 + (a_up (a_ce L xs fr) 90)) H.size) (cwV 1 hts gL_isClimbing_X9_setThreshold rfl rfl rfl (by decide +kernel) ⟨Nat.le_of_ble_eq_true rfl, Nat.le_of_ble_eq_true rfl⟩) ⟨zPE.blind, va_recv hK.1 hPc (ci := 8) (q0 := 0) rfl rfl, z_preE hK hT hZ hS (zf_free hD hS hA [0] rfl) hPc hDc⟩ rfl rfl hl.1 rfl (lv_room (Nat.le_of_ble_eq_true rfl)) dL_isClimbing_22 ⟨Nat.le_of_ble_eq_true rfl, Nat.le_of_ble_eq_true rfl⟩) hP hD hS hA [0] [] rfl rfl (by decide) (by decide) (fun Ex ce q9 H locs hps hP hD hS hce hcv hcl => ?_) (fun H locs _ hP hD hS => ?_)
  · exact (absurd ph_22 hps.2)
  have hP : va_P E.1 vwCl ([(z_W E xa na ma mb ad (fun _ => 0) 0 (nI ((m_n 0 + 1) % 6)) (nI (if m_n 0 < 6 then m_n 0 + 1 else 6)) 0 0 (upd m_g0 10 (10 + (a_up (a_ce L xs fr) 90))) m_g0 m_g0 (va_up (fun _ => m_g0) (m_n 0) m_g0)).flatten] : List va_W).flatten H := hP
  have hD : va_D A ([(z_W E xa na ma mb ad (fun _ => 0) 0 (nI ((m_n 0 + 1) % 6)) (nI (if m_n 0 < 6 then m_n 0 + 1 else 6)) 0 0 (upd m_g0 10 (10 + (a_up (a_ce L xs fr) 90))) m_g0 m_g0 (va_up (fun _ => m_g0) (m_n 0) m_g0)).flatten] : List va_W).flatten := hD
  refine W.widen (k := 80) (n := 1103) (by decide) (by decide) ?_
  refine W.eq (g2 := F0 Mi 25 ls [.int (m_g0 10)]) rfl ?_
  have hw_1 : z_wk 0 (nI ((m_n 0 + 1) % 6)) (nI (if m_n 0 < 6 then m_n 0 + 1 else 6)) 0 0 (upd m_g0 10 (10 + (a_up (a_ce L xs fr) 90))) m_g0 m_g0 (va_up (fun _ => m_g0) (m_n 0) m_g0) := z_wk_save z_wk0 (show z_ok (upd m_g0 10 (10 + (a_up (a_ce L xs fr) 90))) from z_ok_thr z_wk0.1)
  refine lv_bipush (v := 50) hx hb dL_isClimbing_25 (by decide) ?_
  refine lv_icmp_ne (tgt := 34) hx hb dL_isClimbing_27 (by decide) (fun h9 => absurd (rfl) h9) (fun _ => ?_)
  refine lv_iconst (v := 1) hx hb dL_isClimbing_30 (by decide) ?_
  refine lv_goto (tgt := 35) hx hb dL_isClimbing_31 (by decide) ?_
  refine lv_istore_n (lv' := [(3, .int 1), (2, .ref (xa 0)), (0, .ref b), (1, .int (nI fr))]) hx hb dL_isClimbing_35 rfl hl (by decide) rfl (fun ls hl => ?_)
  refine lv_iconst (v := 1) hx hb dL_isClimbing_36 (by decide) ?_
  refine lv_istore (lv' := [(4, .int 1), (3, .int 1), (2, .ref (xa 0)), (0, .ref b), (1, .int (nI fr))]) hx hb dL_isClimbing_37 hl (by decide) rfl (fun ls hl => ?_)
  refine W.widen (k := (7 * 1 + 80)) (n := (40 * 1 + 1103)) (by decide) (by decide) ?_
  exact LOOP_39 10 1 xa na ma mb ad _ _ _ _ (by decide) (Nat.le_refl _) (by decide) hw_1 (z_g_up (z_g_thr2 z_g0 (c_thr _)) (by decide)) (z_cl_thr z_cl0) _ _ (zf_sub hP [0] rfl) (zf_subD hD [0] (by decide) rfl) hS ls (lv_sub hl [3, 4, 2, 1, 0] rfl)
