set_option maxHeartbeats 4000000 in
set_option maxRecDepth 100000 in
theorem c_L_acts (l : Launch) (E : zE) (sa : Nat → Nat) (hl0 : l.stackTraces = false) (xa na ma mb : Nat → Nat) (ad : Nat → Nat → Nat) (tx : Nat → Int32) (ln nx ct f0 f1 : Int32) (g ga gb : Nat → Int32) (v : Nat → Nat → Int32) (hw : z_wk ln nx ct f0 f1 g ga gb v) {T : Nat} (hg : z_g T g) (hT5 : T ≤ 5000) (hf : ¬ f0 = 0) (hga : z_ok ga) (x y : Int32) (j : Nat) (hj : a_up x 16 = nI j) (hj16 : j < 16) : zME l yL_acts wsL_acts ({ frames := 9, cells := 7, slots := 40, locals := 182 }) E sa [.ref (xa 0), .int x, .int y] ([(z_W E xa na ma mb ad tx ln nx ct f0 f1 g ga gb v).flatten] : List va_W).flatten True (some (.int 1)) ([(z_W E xa na ma mb ad tx ln (nI ((m_n nx + 1) % 6)) (nI (if m_n ct < 6 then m_n ct + 1 else 6)) f0 f1 (a_gA g ga y j) ga gb (va_up v (m_n nx) g)).flatten] : List va_W).flatten (fun _ => False) 7 40 := by
  refine z_starte (cc := cL_acts) (maxL := 12) (ret := (some .boolean)) (by decide) rfl (Nat.le_of_ble_eq_true rfl) ?_
  intro Pg En s Mi below meth Cd A hx hb hr hts hown hlocks hml hnt hA hT hZ H hH hP hK hD hS ls hl
  have hl : lv_has ls 12 [(0, .ref (xa 0)), (1, .int x), (2, .int y)] := hl
  refine lv_iload_n hx hb dL_acts_0 rfl (lv_at hl 1 rfl) ?_
  refine lv_bipush (v := 16) hx hb dL_acts_1 (by decide) ?_
  refine z_rdv (va_runS (As := [.int x, .int 16]) (rest := []) ⟨hx, hb, hml, hown, hts⟩ (c_L_up l E x 16 (by decide)) (va_cwS 2 hts gL_acts_L_up rfl rfl rfl (by decide +kernel) ⟨Nat.le_of_ble_eq_true rfl, Nat.le_of_ble_eq_true rfl⟩) ⟨zPr.blind, z_prer hK zP_nil⟩ rfl rfl hl.1 rfl (lv_room (Nat.le_of_ble_eq_true rfl)) dL_acts_3 ⟨Nat.le_of_ble_eq_true rfl, Nat.le_of_ble_eq_true rfl⟩) ?_
  refine W.eq (g2 := F0 Mi 6 ls [.int (a_up x 16)]) rfl ?_
  match j, hj, hj16 with
  | 0, hj, _ =>
    refine z_topi hj ?_
    refine lv_tableIn (off := 50) (tgt := 56) hx hb dL_acts_6 (by decide) (by decide) rfl (by decide) ?_
    refine lv_aload_n hx hb dL_acts_56 rfl (lv_at hl 0 rfl) ?_
    have hPc : va_P E.1 vwCl ([(z_W E xa na ma mb ad tx ln nx ct f0 f1 g ga gb v).flatten] : List va_W).flatten H := zf_sub hP [0] rfl
    refine z_rdv (va_runV (As := []) (rest := []) ⟨hx, hb, hml, hown, hts⟩ (c_X9_isStation l E xa na ma mb ad tx ln nx ct f0 f1 g ga gb v hw) (cwV 0 hts gL_acts_X9_isStation rfl rfl rfl (by decide +kernel) ⟨Nat.le_of_ble_eq_true rfl, Nat.le_of_ble_eq_true rfl⟩) ⟨zPr.blind, va_recv hK.1 hPc (ci := 8) (q0 := 0) rfl rfl, z_prer hK hPc⟩ rfl rfl hl.1 rfl (lv_room (Nat.le_of_ble_eq_true rfl)) dL_acts_57 ⟨Nat.le_of_ble_eq_true rfl, Nat.le_of_ble_eq_true rfl⟩) ?_
    refine W.eq (g2 := F0 Mi 60 ls [.int (g 2)]) rfl ?_
    refine lv_istore_n (lv' := [(3, .int (g 2)), (0, .ref (xa 0)), (1, .int x), (2, .int y)]) hx hb dL_acts_60 rfl hl (by decide) rfl (fun ls hl => ?_)
    refine lv_aload_n hx hb dL_acts_61 rfl (lv_at hl 1 rfl) ?_
    refine lv_iload_n hx hb dL_acts_62 rfl (lv_at hl 3 rfl) ?_
    refine lv_iconst (v := 1) hx hb dL_acts_63 (by decide) ?_
    refine lv_iand hx hb dL_acts_64 ?_
    refine lv_iconst (v := 1) hx hb dL_acts_65 (by decide) ?_
    refine lv_icmp_ne (tgt := 73) hx hb dL_acts_66 (by decide) (fun c_66 => ?_) (fun c_66 => ?_)
    · refine lv_iconst (v := 0) hx hb dL_acts_73 (by decide) ?_
      refine z_topi (y := a_od y) (by rw [a_od, if_neg c_66]) ?_
      have hPc : va_P E.1 vwCl ([(z_W E xa na ma mb ad tx ln nx ct f0 f1 g ga gb v).flatten] : List va_W).flatten H := zf_sub hP [0] rfl
      have hDc : va_D A ([(z_W E xa na ma mb ad tx ln nx ct f0 f1 g ga gb v).flatten] : List va_W).flatten := zf_subD hD [0] (by decide) rfl
      refine z_mut (Sc := [(z_W E xa na ma mb ad tx ln nx ct f0 f1 g ga gb v).flatten]) (Sr := []) (W1 := [(z_W E xa na ma mb ad tx ln (nI ((m_n nx + 1) % 6)) (nI (if m_n ct < 6 then m_n ct + 1 else 6)) f0 f1 (m_swC g (a_od y)) ga gb (va_up v (m_n nx) g)).flatten]) (va_runV (As := [.int (a_od y)]) (rest := []) ⟨hx, hb, hml, hown, hts⟩ (c_X9_setStation l E xa na ma mb ad tx ln nx ct f0 f1 g ga gb v hw (a_od y) (a_od01 y) H.size) (cwV 1 hts gL_acts_X9_setStation rfl rfl rfl (by decide +kernel) ⟨Nat.le_of_ble_eq_true rfl, Nat.le_of_ble_eq_true rfl⟩) ⟨zP.blind, va_recv hK.1 hPc (ci := 8) (q0 := 0) rfl rfl, z_pre hK hPc hDc⟩ rfl rfl hl.1 rfl (lv_room (Nat.le_of_ble_eq_true rfl)) dL_acts_74 ⟨Nat.le_of_ble_eq_true rfl, Nat.le_of_ble_eq_true rfl⟩) hP hD hS hA [0] [] rfl rfl (by decide) (by decide) (fun H locs hP hD hS => ?_)
      have hP : va_P E.1 vwCl ([(z_W E xa na ma mb ad tx ln (nI ((m_n nx + 1) % 6)) (nI (if m_n ct < 6 then m_n ct + 1 else 6)) f0 f1 (m_swC g (a_od y)) ga gb (va_up v (m_n nx) g)).flatten] : List va_W).flatten H := hP
      have hD : va_D A ([(z_W E xa na ma mb ad tx ln (nI ((m_n nx + 1) % 6)) (nI (if m_n ct < 6 then m_n ct + 1 else 6)) f0 f1 (m_swC g (a_od y)) ga gb (va_up v (m_n nx) g)).flatten] : List va_W).flatten := hD
      refine W.eq (g2 := F0 Mi 77 ls [.int (g 2)]) rfl ?_
      have hw_1 : z_wk ln (nI ((m_n nx + 1) % 6)) (nI (if m_n ct < 6 then m_n ct + 1 else 6)) f0 f1 (m_swC g (a_od y)) ga gb (va_up v (m_n nx) g) := z_wk_save hw (show z_ok (m_swC g (a_od y)) from z_ok_sw hw.1 (a_od01 y))
      refine lv_iload_n hx hb dL_acts_77 rfl (lv_at hl 0 rfl) ?_
      refine lv_icmp_ne (tgt := 119) hx hb dL_acts_78 (by decide) (fun h9 => absurd (rfl) h9) (fun _ => ?_)
      refine lv_aload_n hx hb dL_acts_81 rfl (lv_at hl 1 rfl) ?_
      have hPc : va_P E.1 vwCl ([(z_W E xa na ma mb ad tx ln (nI ((m_n nx + 1) % 6)) (nI (if m_n ct < 6 then m_n ct + 1 else 6)) f0 f1 (m_swC g (a_od y)) ga gb (va_up v (m_n nx) g)).flatten] : List va_W).flatten H := zf_sub hP [0] rfl
      refine z_rdv (va_runV (As := []) (rest := []) ⟨hx, hb, hml, hown, hts⟩ (c_X9_isStation l E xa na ma mb ad tx ln (nI ((m_n nx + 1) % 6)) (nI (if m_n ct < 6 then m_n ct + 1 else 6)) f0 f1 (m_swC g (a_od y)) ga gb (va_up v (m_n nx) g) hw_1) (cwV 0 hts gL_acts_X9_isStation rfl rfl rfl (by decide +kernel) ⟨Nat.le_of_ble_eq_true rfl, Nat.le_of_ble_eq_true rfl⟩) ⟨zPr.blind, va_recv hK.1 hPc (ci := 8) (q0 := 0) rfl rfl, z_prer hK hPc⟩ rfl rfl hl.1 rfl (lv_room (Nat.le_of_ble_eq_true rfl)) dL_acts_82 ⟨Nat.le_of_ble_eq_true rfl, Nat.le_of_ble_eq_true rfl⟩) ?_
      refine W.eq (g2 := F0 Mi 85 ls [.int ((m_swC g (a_od y)) 2)]) rfl ?_
      refine lv_iload_n hx hb dL_acts_85 rfl (lv_at hl 3 rfl) ?_
      refine lv_iconst (v := 1) hx hb dL_acts_86 (by decide) ?_
      refine lv_iand hx hb dL_acts_87 ?_
      refine lv_iconst (v := 1) hx hb dL_acts_88 (by decide) ?_
      refine lv_icmp_ne (tgt := 96) hx hb dL_acts_89 (by decide) (fun _ => ?_) (fun h9 => absurd h9 (c_66))
      refine lv_iconst (v := 0) hx hb dL_acts_96 (by decide) ?_
      refine z_topi (y := a_od y) (by rw [a_od, if_neg c_66]) ?_
      refine lv_icmp_ne (tgt := 119) hx hb dL_acts_97 (by decide) (fun h9 => absurd (s_2) h9) (fun _ => ?_)
      refine lv_aload_n hx hb dL_acts_100 rfl (lv_at hl 1 rfl) ?_
      have hPc : va_P E.1 vwCl ([(z_W E xa na ma mb ad tx ln (nI ((m_n nx + 1) % 6)) (nI (if m_n ct < 6 then m_n ct + 1 else 6)) f0 f1 (m_swC g (a_od y)) ga gb (va_up v (m_n nx) g)).flatten] : List va_W).flatten H := zf_sub hP [0] rfl
      refine z_rdv (va_runV (As := []) (rest := []) ⟨hx, hb, hml, hown, hts⟩ (c_X9_isStation l E xa na ma mb ad tx ln (nI ((m_n nx + 1) % 6)) (nI (if m_n ct < 6 then m_n ct + 1 else 6)) f0 f1 (m_swC g (a_od y)) ga gb (va_up v (m_n nx) g) hw_1) (cwV 0 hts gL_acts_X9_isStation rfl rfl rfl (by decide +kernel) ⟨Nat.le_of_ble_eq_true rfl, Nat.le_of_ble_eq_true rfl⟩) ⟨zPr.blind, va_recv hK.1 hPc (ci := 8) (q0 := 0) rfl rfl, z_prer hK hPc⟩ rfl rfl hl.1 rfl (lv_room (Nat.le_of_ble_eq_true rfl)) dL_acts_101 ⟨Nat.le_of_ble_eq_true rfl, Nat.le_of_ble_eq_true rfl⟩) ?_
      refine W.eq (g2 := F0 Mi 104 ls [.int ((m_swC g (a_od y)) 2)]) rfl ?_
      refine lv_iload_n hx hb dL_acts_104 rfl (lv_at hl 0 rfl) ?_
      refine lv_icmp_eq (tgt := 115) hx hb dL_acts_105 (by decide) (fun c_105 => ?_) (fun c_105 => ?_)
      · refine lv_iconst (v := 1) hx hb dL_acts_115 (by decide) ?_
        refine lv_goto (tgt := 120) hx hb dL_acts_116 (by decide) ?_
        have hP : va_P E.1 vwCl ([(z_W E xa na ma mb ad tx ln (nI ((m_n nx + 1) % 6)) (nI (if m_n ct < 6 then m_n ct + 1 else 6)) f0 f1 (m_swC g (a_od y)) ga gb (va_up v (m_n nx) g)).flatten] : List va_W).flatten H := zf_sub hP [0] rfl
        have hD : va_D A ([(z_W E xa na ma mb ad tx ln (nI ((m_n nx + 1) % 6)) (nI (if m_n ct < 6 then m_n ct + 1 else 6)) f0 f1 (m_swC g (a_od y)) ga gb (va_up v (m_n nx) g)).flatten] : List va_W).flatten := zf_subD hD [0] (by decide) rfl
        refine W.widen (k := 7) (n := 40) (by decide) (by decide) ?_
        refine vx_ret ?_
        exact W.zret (v := 1) hx hb hr rfl (z_ende trivial hP hD hS rfl) hS.2.2 dL_acts_120 hlocks
      · refine lv_aload_n hx hb dL_acts_108 rfl (lv_at hl 1 rfl) ?_
        have hPc : va_P E.1 vwCl ([(z_W E xa na ma mb ad tx ln (nI ((m_n nx + 1) % 6)) (nI (if m_n ct < 6 then m_n ct + 1 else 6)) f0 f1 (m_swC g (a_od y)) ga gb (va_up v (m_n nx) g)).flatten] : List va_W).flatten H := zf_sub hP [0] rfl
        refine z_rdv (va_runV (As := []) (rest := []) ⟨hx, hb, hml, hown, hts⟩ (c_X9_logged l E xa na ma mb ad tx ln (nI ((m_n nx + 1) % 6)) (nI (if m_n ct < 6 then m_n ct + 1 else 6)) f0 f1 (m_swC g (a_od y)) ga gb (va_up v (m_n nx) g) hw_1) (cwV 0 hts gL_acts_X9_logged rfl rfl rfl (by decide +kernel) ⟨Nat.le_of_ble_eq_true rfl, Nat.le_of_ble_eq_true rfl⟩) ⟨zPr.blind, va_recv hK.1 hPc (ci := 8) (q0 := 0) rfl rfl, z_prer hK hPc⟩ rfl rfl hl.1 rfl (lv_room (Nat.le_of_ble_eq_true rfl)) dL_acts_109 ⟨Nat.le_of_ble_eq_true rfl, Nat.le_of_ble_eq_true rfl⟩) ?_
        refine W.eq (g2 := F0 Mi 112 ls [.int ((m_swC g (a_od y)) 14)]) rfl ?_
        refine lv_if_ne (tgt := 119) hx hb dL_acts_112 (by decide) (fun h9 => absurd (s_14 c_105) h9) (fun _ => ?_)
        refine lv_iconst (v := 1) hx hb dL_acts_115 (by decide) ?_
        refine lv_goto (tgt := 120) hx hb dL_acts_116 (by decide) ?_
        have hP : va_P E.1 vwCl ([(z_W E xa na ma mb ad tx ln (nI ((m_n nx + 1) % 6)) (nI (if m_n ct < 6 then m_n ct + 1 else 6)) f0 f1 (m_swC g (a_od y)) ga gb (va_up v (m_n nx) g)).flatten] : List va_W).flatten H := zf_sub hP [0] rfl
        have hD : va_D A ([(z_W E xa na ma mb ad tx ln (nI ((m_n nx + 1) % 6)) (nI (if m_n ct < 6 then m_n ct + 1 else 6)) f0 f1 (m_swC g (a_od y)) ga gb (va_up v (m_n nx) g)).flatten] : List va_W).flatten := zf_subD hD [0] (by decide) rfl
        refine W.widen (k := 7) (n := 40) (by decide) (by decide) ?_
        refine vx_ret ?_
        exact W.zret (v := 1) hx hb hr rfl (z_ende trivial hP hD hS rfl) hS.2.2 dL_acts_120 hlocks
    · refine lv_iconst (v := 1) hx hb dL_acts_69 (by decide) ?_
      refine lv_goto (tgt := 74) hx hb dL_acts_70 (by decide) ?_
      refine z_topi (y := a_od y) (by rw [a_od, if_pos c_66]) ?_
      have hPc : va_P E.1 vwCl ([(z_W E xa na ma mb ad tx ln nx ct f0 f1 g ga gb v).flatten] : List va_W).flatten H := zf_sub hP [0] rfl
      have hDc : va_D A ([(z_W E xa na ma mb ad tx ln nx ct f0 f1 g ga gb v).flatten] : List va_W).flatten := zf_subD hD [0] (by decide) rfl
      refine z_mut (Sc := [(z_W E xa na ma mb ad tx ln nx ct f0 f1 g ga gb v).flatten]) (Sr := []) (W1 := [(z_W E xa na ma mb ad tx ln (nI ((m_n nx + 1) % 6)) (nI (if m_n ct < 6 then m_n ct + 1 else 6)) f0 f1 (m_swC g (a_od y)) ga gb (va_up v (m_n nx) g)).flatten]) (va_runV (As := [.int (a_od y)]) (rest := []) ⟨hx, hb, hml, hown, hts⟩ (c_X9_setStation l E xa na ma mb ad tx ln nx ct f0 f1 g ga gb v hw (a_od y) (a_od01 y) H.size) (cwV 1 hts gL_acts_X9_setStation rfl rfl rfl (by decide +kernel) ⟨Nat.le_of_ble_eq_true rfl, Nat.le_of_ble_eq_true rfl⟩) ⟨zP.blind, va_recv hK.1 hPc (ci := 8) (q0 := 0) rfl rfl, z_pre hK hPc hDc⟩ rfl rfl hl.1 rfl (lv_room (Nat.le_of_ble_eq_true rfl)) dL_acts_74 ⟨Nat.le_of_ble_eq_true rfl, Nat.le_of_ble_eq_true rfl⟩) hP hD hS hA [0] [] rfl rfl (by decide) (by decide) (fun H locs hP hD hS => ?_)
      have hP : va_P E.1 vwCl ([(z_W E xa na ma mb ad tx ln (nI ((m_n nx + 1) % 6)) (nI (if m_n ct < 6 then m_n ct + 1 else 6)) f0 f1 (m_swC g (a_od y)) ga gb (va_up v (m_n nx) g)).flatten] : List va_W).flatten H := hP
      have hD : va_D A ([(z_W E xa na ma mb ad tx ln (nI ((m_n nx + 1) % 6)) (nI (if m_n ct < 6 then m_n ct + 1 else 6)) f0 f1 (m_swC g (a_od y)) ga gb (va_up v (m_n nx) g)).flatten] : List va_W).flatten := hD
      refine W.eq (g2 := F0 Mi 77 ls [.int (g 2)]) rfl ?_
      have hw_2 : z_wk ln (nI ((m_n nx + 1) % 6)) (nI (if m_n ct < 6 then m_n ct + 1 else 6)) f0 f1 (m_swC g (a_od y)) ga gb (va_up v (m_n nx) g) := z_wk_save hw (show z_ok (m_swC g (a_od y)) from z_ok_sw hw.1 (a_od01 y))
      refine lv_iload_n hx hb dL_acts_77 rfl (lv_at hl 0 rfl) ?_
      refine lv_icmp_ne (tgt := 119) hx hb dL_acts_78 (by decide) (fun h9 => absurd (rfl) h9) (fun _ => ?_)
      refine lv_aload_n hx hb dL_acts_81 rfl (lv_at hl 1 rfl) ?_
      have hPc : va_P E.1 vwCl ([(z_W E xa na ma mb ad tx ln (nI ((m_n nx + 1) % 6)) (nI (if m_n ct < 6 then m_n ct + 1 else 6)) f0 f1 (m_swC g (a_od y)) ga gb (va_up v (m_n nx) g)).flatten] : List va_W).flatten H := zf_sub hP [0] rfl
      refine z_rdv (va_runV (As := []) (rest := []) ⟨hx, hb, hml, hown, hts⟩ (c_X9_isStation l E xa na ma mb ad tx ln (nI ((m_n nx + 1) % 6)) (nI (if m_n ct < 6 then m_n ct + 1 else 6)) f0 f1 (m_swC g (a_od y)) ga gb (va_up v (m_n nx) g) hw_2) (cwV 0 hts gL_acts_X9_isStation rfl rfl rfl (by decide +kernel) ⟨Nat.le_of_ble_eq_true rfl, Nat.le_of_ble_eq_true rfl⟩) ⟨zPr.blind, va_recv hK.1 hPc (ci := 8) (q0 := 0) rfl rfl, z_prer hK hPc⟩ rfl rfl hl.1 rfl (lv_room (Nat.le_of_ble_eq_true rfl)) dL_acts_82 ⟨Nat.le_of_ble_eq_true rfl, Nat.le_of_ble_eq_true rfl⟩) ?_
      refine W.eq (g2 := F0 Mi 85 ls [.int ((m_swC g (a_od y)) 2)]) rfl ?_
      refine lv_iload_n hx hb dL_acts_85 rfl (lv_at hl 3 rfl) ?_
      refine lv_iconst (v := 1) hx hb dL_acts_86 (by decide) ?_
      refine lv_iand hx hb dL_acts_87 ?_
      refine lv_iconst (v := 1) hx hb dL_acts_88 (by decide) ?_
      refine lv_icmp_ne (tgt := 96) hx hb dL_acts_89 (by decide) (fun h9 => absurd (c_66) h9) (fun _ => ?_)
      refine lv_iconst (v := 1) hx hb dL_acts_92 (by decide) ?_
      refine lv_goto (tgt := 97) hx hb dL_acts_93 (by decide) ?_
      refine z_topi (y := a_od y) (by rw [a_od, if_pos c_66]) ?_
      refine lv_icmp_ne (tgt := 119) hx hb dL_acts_97 (by decide) (fun h9 => absurd (s_2) h9) (fun _ => ?_)
      refine lv_aload_n hx hb dL_acts_100 rfl (lv_at hl 1 rfl) ?_
      have hPc : va_P E.1 vwCl ([(z_W E xa na ma mb ad tx ln (nI ((m_n nx + 1) % 6)) (nI (if m_n ct < 6 then m_n ct + 1 else 6)) f0 f1 (m_swC g (a_od y)) ga gb (va_up v (m_n nx) g)).flatten] : List va_W).flatten H := zf_sub hP [0] rfl
      refine z_rdv (va_runV (As := []) (rest := []) ⟨hx, hb, hml, hown, hts⟩ (c_X9_isStation l E xa na ma mb ad tx ln (nI ((m_n nx + 1) % 6)) (nI (if m_n ct < 6 then m_n ct + 1 else 6)) f0 f1 (m_swC g (a_od y)) ga gb (va_up v (m_n nx) g) hw_2) (cwV 0 hts gL_acts_X9_isStation rfl rfl rfl (by decide +kernel) ⟨Nat.le_of_ble_eq_true rfl, Nat.le_of_ble_eq_true rfl⟩) ⟨zPr.blind, va_recv hK.1 hPc (ci := 8) (q0 := 0) rfl rfl, z_prer hK hPc⟩ rfl rfl hl.1 rfl (lv_room (Nat.le_of_ble_eq_true rfl)) dL_acts_101 ⟨Nat.le_of_ble_eq_true rfl, Nat.le_of_ble_eq_true rfl⟩) ?_
      refine W.eq (g2 := F0 Mi 104 ls [.int ((m_swC g (a_od y)) 2)]) rfl ?_
      refine lv_iload_n hx hb dL_acts_104 rfl (lv_at hl 0 rfl) ?_
      refine lv_icmp_eq (tgt := 115) hx hb dL_acts_105 (by decide) (fun c_105 => ?_) (fun c_105 => ?_)
      · refine lv_iconst (v := 1) hx hb dL_acts_115 (by decide) ?_
        refine lv_goto (tgt := 120) hx hb dL_acts_116 (by decide) ?_
        have hP : va_P E.1 vwCl ([(z_W E xa na ma mb ad tx ln (nI ((m_n nx + 1) % 6)) (nI (if m_n ct < 6 then m_n ct + 1 else 6)) f0 f1 (m_swC g (a_od y)) ga gb (va_up v (m_n nx) g)).flatten] : List va_W).flatten H := zf_sub hP [0] rfl
        have hD : va_D A ([(z_W E xa na ma mb ad tx ln (nI ((m_n nx + 1) % 6)) (nI (if m_n ct < 6 then m_n ct + 1 else 6)) f0 f1 (m_swC g (a_od y)) ga gb (va_up v (m_n nx) g)).flatten] : List va_W).flatten := zf_subD hD [0] (by decide) rfl
        refine W.widen (k := 7) (n := 40) (by decide) (by decide) ?_
        refine vx_ret ?_
        exact W.zret (v := 1) hx hb hr rfl (z_ende trivial hP hD hS rfl) hS.2.2 dL_acts_120 hlocks
      · refine lv_aload_n hx hb dL_acts_108 rfl (lv_at hl 1 rfl) ?_
        have hPc : va_P E.1 vwCl ([(z_W E xa na ma mb ad tx ln (nI ((m_n nx + 1) % 6)) (nI (if m_n ct < 6 then m_n ct + 1 else 6)) f0 f1 (m_swC g (a_od y)) ga gb (va_up v (m_n nx) g)).flatten] : List va_W).flatten H := zf_sub hP [0] rfl
        refine z_rdv (va_runV (As := []) (rest := []) ⟨hx, hb, hml, hown, hts⟩ (c_X9_logged l E xa na ma mb ad tx ln (nI ((m_n nx + 1) % 6)) (nI (if m_n ct < 6 then m_n ct + 1 else 6)) f0 f1 (m_swC g (a_od y)) ga gb (va_up v (m_n nx) g) hw_2) (cwV 0 hts gL_acts_X9_logged rfl rfl rfl (by decide +kernel) ⟨Nat.le_of_ble_eq_true rfl, Nat.le_of_ble_eq_true rfl⟩) ⟨zPr.blind, va_recv hK.1 hPc (ci := 8) (q0 := 0) rfl rfl, z_prer hK hPc⟩ rfl rfl hl.1 rfl (lv_room (Nat.le_of_ble_eq_true rfl)) dL_acts_109 ⟨Nat.le_of_ble_eq_true rfl, Nat.le_of_ble_eq_true rfl⟩) ?_
        refine W.eq (g2 := F0 Mi 112 ls [.int ((m_swC g (a_od y)) 14)]) rfl ?_
        refine lv_if_ne (tgt := 119) hx hb dL_acts_112 (by decide) (fun h9 => absurd (s_14 c_105) h9) (fun _ => ?_)
        refine lv_iconst (v := 1) hx hb dL_acts_115 (by decide) ?_
        refine lv_goto (tgt := 120) hx hb dL_acts_116 (by decide) ?_
        have hP : va_P E.1 vwCl ([(z_W E xa na ma mb ad tx ln (nI ((m_n nx + 1) % 6)) (nI (if m_n ct < 6 then m_n ct + 1 else 6)) f0 f1 (m_swC g (a_od y)) ga gb (va_up v (m_n nx) g)).flatten] : List va_W).flatten H := zf_sub hP [0] rfl
        have hD : va_D A ([(z_W E xa na ma mb ad tx ln (nI ((m_n nx + 1) % 6)) (nI (if m_n ct < 6 then m_n ct + 1 else 6)) f0 f1 (m_swC g (a_od y)) ga gb (va_up v (m_n nx) g)).flatten] : List va_W).flatten := zf_subD hD [0] (by decide) rfl
        refine W.widen (k := 7) (n := 40) (by decide) (by decide) ?_
        refine vx_ret ?_
        exact W.zret (v := 1) hx hb hr rfl (z_ende trivial hP hD hS rfl) hS.2.2 dL_acts_120 hlocks
  | 1, hj, _ =>
    refine z_topi hj ?_
    refine lv_tableIn (off := 50) (tgt := 56) hx hb dL_acts_6 (by decide) (by decide) rfl (by decide) ?_
    refine lv_aload_n hx hb dL_acts_56 rfl (lv_at hl 0 rfl) ?_
    have hPc : va_P E.1 vwCl ([(z_W E xa na ma mb ad tx ln nx ct f0 f1 g ga gb v).flatten] : List va_W).flatten H := zf_sub hP [0] rfl
    refine z_rdv (va_runV (As := []) (rest := []) ⟨hx, hb, hml, hown, hts⟩ (c_X9_isStation l E xa na ma mb ad tx ln nx ct f0 f1 g ga gb v hw) (cwV 0 hts gL_acts_X9_isStation rfl rfl rfl (by decide +kernel) ⟨Nat.le_of_ble_eq_true rfl, Nat.le_of_ble_eq_true rfl⟩) ⟨zPr.blind, va_recv hK.1 hPc (ci := 8) (q0 := 0) rfl rfl, z_prer hK hPc⟩ rfl rfl hl.1 rfl (lv_room (Nat.le_of_ble_eq_true rfl)) dL_acts_57 ⟨Nat.le_of_ble_eq_true rfl, Nat.le_of_ble_eq_true rfl⟩) ?_
    refine W.eq (g2 := F0 Mi 60 ls [.int (g 2)]) rfl ?_
    refine lv_istore_n (lv' := [(3, .int (g 2)), (0, .ref (xa 0)), (1, .int x), (2, .int y)]) hx hb dL_acts_60 rfl hl (by decide) rfl (fun ls hl => ?_)
    refine lv_aload_n hx hb dL_acts_61 rfl (lv_at hl 1 rfl) ?_
    refine lv_iload_n hx hb dL_acts_62 rfl (lv_at hl 3 rfl) ?_
    refine lv_iconst (v := 1) hx hb dL_acts_63 (by decide) ?_
    refine lv_iand hx hb dL_acts_64 ?_
    refine lv_iconst (v := 1) hx hb dL_acts_65 (by decide) ?_
    refine lv_icmp_ne (tgt := 73) hx hb dL_acts_66 (by decide) (fun c_66 => ?_) (fun c_66 => ?_)
    · refine lv_iconst (v := 0) hx hb dL_acts_73 (by decide) ?_
      refine z_topi (y := a_od y) (by rw [a_od, if_neg c_66]) ?_
      have hPc : va_P E.1 vwCl ([(z_W E xa na ma mb ad tx ln nx ct f0 f1 g ga gb v).flatten] : List va_W).flatten H := zf_sub hP [0] rfl
      have hDc : va_D A ([(z_W E xa na ma mb ad tx ln nx ct f0 f1 g ga gb v).flatten] : List va_W).flatten := zf_subD hD [0] (by decide) rfl
      refine z_mut (Sc := [(z_W E xa na ma mb ad tx ln nx ct f0 f1 g ga gb v).flatten]) (Sr := []) (W1 := [(z_W E xa na ma mb ad tx ln (nI ((m_n nx + 1) % 6)) (nI (if m_n ct < 6 then m_n ct + 1 else 6)) f0 f1 (m_swC g (a_od y)) ga gb (va_up v (m_n nx) g)).flatten]) (va_runV (As := [.int (a_od y)]) (rest := []) ⟨hx, hb, hml, hown, hts⟩ (c_X9_setStation l E xa na ma mb ad tx ln nx ct f0 f1 g ga gb v hw (a_od y) (a_od01 y) H.size) (cwV 1 hts gL_acts_X9_setStation rfl rfl rfl (by decide +kernel) ⟨Nat.le_of_ble_eq_true rfl, Nat.le_of_ble_eq_true rfl⟩) ⟨zP.blind, va_recv hK.1 hPc (ci := 8) (q0 := 0) rfl rfl, z_pre hK hPc hDc⟩ rfl rfl hl.1 rfl (lv_room (Nat.le_of_ble_eq_true rfl)) dL_acts_74 ⟨Nat.le_of_ble_eq_true rfl, Nat.le_of_ble_eq_true rfl⟩) hP hD hS hA [0] [] rfl rfl (by decide) (by decide) (fun H locs hP hD hS => ?_)
      have hP : va_P E.1 vwCl ([(z_W E xa na ma mb ad tx ln (nI ((m_n nx + 1) % 6)) (nI (if m_n ct < 6 then m_n ct + 1 else 6)) f0 f1 (m_swC g (a_od y)) ga gb (va_up v (m_n nx) g)).flatten] : List va_W).flatten H := hP
      have hD : va_D A ([(z_W E xa na ma mb ad tx ln (nI ((m_n nx + 1) % 6)) (nI (if m_n ct < 6 then m_n ct + 1 else 6)) f0 f1 (m_swC g (a_od y)) ga gb (va_up v (m_n nx) g)).flatten] : List va_W).flatten := hD
      refine W.eq (g2 := F0 Mi 77 ls [.int (g 2)]) rfl ?_
      have hw_3 : z_wk ln (nI ((m_n nx + 1) % 6)) (nI (if m_n ct < 6 then m_n ct + 1 else 6)) f0 f1 (m_swC g (a_od y)) ga gb (va_up v (m_n nx) g) := z_wk_save hw (show z_ok (m_swC g (a_od y)) from z_ok_sw hw.1 (a_od01 y))
      refine lv_iload_n hx hb dL_acts_77 rfl (lv_at hl 0 rfl) ?_
      refine lv_icmp_ne (tgt := 119) hx hb dL_acts_78 (by decide) (fun h9 => absurd (rfl) h9) (fun _ => ?_)
      refine lv_aload_n hx hb dL_acts_81 rfl (lv_at hl 1 rfl) ?_
      have hPc : va_P E.1 vwCl ([(z_W E xa na ma mb ad tx ln (nI ((m_n nx + 1) % 6)) (nI (if m_n ct < 6 then m_n ct + 1 else 6)) f0 f1 (m_swC g (a_od y)) ga gb (va_up v (m_n nx) g)).flatten] : List va_W).flatten H := zf_sub hP [0] rfl
      refine z_rdv (va_runV (As := []) (rest := []) ⟨hx, hb, hml, hown, hts⟩ (c_X9_isStation l E xa na ma mb ad tx ln (nI ((m_n nx + 1) % 6)) (nI (if m_n ct < 6 then m_n ct + 1 else 6)) f0 f1 (m_swC g (a_od y)) ga gb (va_up v (m_n nx) g) hw_3) (cwV 0 hts gL_acts_X9_isStation rfl rfl rfl (by decide +kernel) ⟨Nat.le_of_ble_eq_true rfl, Nat.le_of_ble_eq_true rfl⟩) ⟨zPr.blind, va_recv hK.1 hPc (ci := 8) (q0 := 0) rfl rfl, z_prer hK hPc⟩ rfl rfl hl.1 rfl (lv_room (Nat.le_of_ble_eq_true rfl)) dL_acts_82 ⟨Nat.le_of_ble_eq_true rfl, Nat.le_of_ble_eq_true rfl⟩) ?_
      refine W.eq (g2 := F0 Mi 85 ls [.int ((m_swC g (a_od y)) 2)]) rfl ?_
      refine lv_iload_n hx hb dL_acts_85 rfl (lv_at hl 3 rfl) ?_
      refine lv_iconst (v := 1) hx hb dL_acts_86 (by decide) ?_
      refine lv_iand hx hb dL_acts_87 ?_
      refine lv_iconst (v := 1) hx hb dL_acts_88 (by decide) ?_
      refine lv_icmp_ne (tgt := 96) hx hb dL_acts_89 (by decide) (fun _ => ?_) (fun h9 => absurd h9 (c_66))
      refine lv_iconst (v := 0) hx hb dL_acts_96 (by decide) ?_
      refine z_topi (y := a_od y) (by rw [a_od, if_neg c_66]) ?_
      refine lv_icmp_ne (tgt := 119) hx hb dL_acts_97 (by decide) (fun h9 => absurd (s_2) h9) (fun _ => ?_)
      refine lv_aload_n hx hb dL_acts_100 rfl (lv_at hl 1 rfl) ?_
      have hPc : va_P E.1 vwCl ([(z_W E xa na ma mb ad tx ln (nI ((m_n nx + 1) % 6)) (nI (if m_n ct < 6 then m_n ct + 1 else 6)) f0 f1 (m_swC g (a_od y)) ga gb (va_up v (m_n nx) g)).flatten] : List va_W).flatten H := zf_sub hP [0] rfl
      refine z_rdv (va_runV (As := []) (rest := []) ⟨hx, hb, hml, hown, hts⟩ (c_X9_isStation l E xa na ma mb ad tx ln (nI ((m_n nx + 1) % 6)) (nI (if m_n ct < 6 then m_n ct + 1 else 6)) f0 f1 (m_swC g (a_od y)) ga gb (va_up v (m_n nx) g) hw_3) (cwV 0 hts gL_acts_X9_isStation rfl rfl rfl (by decide +kernel) ⟨Nat.le_of_ble_eq_true rfl, Nat.le_of_ble_eq_true rfl⟩) ⟨zPr.blind, va_recv hK.1 hPc (ci := 8) (q0 := 0) rfl rfl, z_prer hK hPc⟩ rfl rfl hl.1 rfl (lv_room (Nat.le_of_ble_eq_true rfl)) dL_acts_101 ⟨Nat.le_of_ble_eq_true rfl, Nat.le_of_ble_eq_true rfl⟩) ?_
      refine W.eq (g2 := F0 Mi 104 ls [.int ((m_swC g (a_od y)) 2)]) rfl ?_
      refine lv_iload_n hx hb dL_acts_104 rfl (lv_at hl 0 rfl) ?_
      refine lv_icmp_eq (tgt := 115) hx hb dL_acts_105 (by decide) (fun c_105 => ?_) (fun c_105 => ?_)
      · refine lv_iconst (v := 1) hx hb dL_acts_115 (by decide) ?_
        refine lv_goto (tgt := 120) hx hb dL_acts_116 (by decide) ?_
        have hP : va_P E.1 vwCl ([(z_W E xa na ma mb ad tx ln (nI ((m_n nx + 1) % 6)) (nI (if m_n ct < 6 then m_n ct + 1 else 6)) f0 f1 (m_swC g (a_od y)) ga gb (va_up v (m_n nx) g)).flatten] : List va_W).flatten H := zf_sub hP [0] rfl
        have hD : va_D A ([(z_W E xa na ma mb ad tx ln (nI ((m_n nx + 1) % 6)) (nI (if m_n ct < 6 then m_n ct + 1 else 6)) f0 f1 (m_swC g (a_od y)) ga gb (va_up v (m_n nx) g)).flatten] : List va_W).flatten := zf_subD hD [0] (by decide) rfl
        refine W.widen (k := 7) (n := 40) (by decide) (by decide) ?_
        refine vx_ret ?_
        exact W.zret (v := 1) hx hb hr rfl (z_ende trivial hP hD hS rfl) hS.2.2 dL_acts_120 hlocks
      · refine lv_aload_n hx hb dL_acts_108 rfl (lv_at hl 1 rfl) ?_
        have hPc : va_P E.1 vwCl ([(z_W E xa na ma mb ad tx ln (nI ((m_n nx + 1) % 6)) (nI (if m_n ct < 6 then m_n ct + 1 else 6)) f0 f1 (m_swC g (a_od y)) ga gb (va_up v (m_n nx) g)).flatten] : List va_W).flatten H := zf_sub hP [0] rfl
        refine z_rdv (va_runV (As := []) (rest := []) ⟨hx, hb, hml, hown, hts⟩ (c_X9_logged l E xa na ma mb ad tx ln (nI ((m_n nx + 1) % 6)) (nI (if m_n ct < 6 then m_n ct + 1 else 6)) f0 f1 (m_swC g (a_od y)) ga gb (va_up v (m_n nx) g) hw_3) (cwV 0 hts gL_acts_X9_logged rfl rfl rfl (by decide +kernel) ⟨Nat.le_of_ble_eq_true rfl, Nat.le_of_ble_eq_true rfl⟩) ⟨zPr.blind, va_recv hK.1 hPc (ci := 8) (q0 := 0) rfl rfl, z_prer hK hPc⟩ rfl rfl hl.1 rfl (lv_room (Nat.le_of_ble_eq_true rfl)) dL_acts_109 ⟨Nat.le_of_ble_eq_true rfl, Nat.le_of_ble_eq_true rfl⟩) ?_
        refine W.eq (g2 := F0 Mi 112 ls [.int ((m_swC g (a_od y)) 14)]) rfl ?_
        refine lv_if_ne (tgt := 119) hx hb dL_acts_112 (by decide) (fun h9 => absurd (s_14 c_105) h9) (fun _ => ?_)
        refine lv_iconst (v := 1) hx hb dL_acts_115 (by decide) ?_
        refine lv_goto (tgt := 120) hx hb dL_acts_116 (by decide) ?_
        have hP : va_P E.1 vwCl ([(z_W E xa na ma mb ad tx ln (nI ((m_n nx + 1) % 6)) (nI (if m_n ct < 6 then m_n ct + 1 else 6)) f0 f1 (m_swC g (a_od y)) ga gb (va_up v (m_n nx) g)).flatten] : List va_W).flatten H := zf_sub hP [0] rfl
        have hD : va_D A ([(z_W E xa na ma mb ad tx ln (nI ((m_n nx + 1) % 6)) (nI (if m_n ct < 6 then m_n ct + 1 else 6)) f0 f1 (m_swC g (a_od y)) ga gb (va_up v (m_n nx) g)).flatten] : List va_W).flatten := zf_subD hD [0] (by decide) rfl
        refine W.widen (k := 7) (n := 40) (by decide) (by decide) ?_
        refine vx_ret ?_
        exact W.zret (v := 1) hx hb hr rfl (z_ende trivial hP hD hS rfl) hS.2.2 dL_acts_120 hlocks
    · refine lv_iconst (v := 1) hx hb dL_acts_69 (by decide) ?_
      refine lv_goto (tgt := 74) hx hb dL_acts_70 (by decide) ?_
      refine z_topi (y := a_od y) (by rw [a_od, if_pos c_66]) ?_
      have hPc : va_P E.1 vwCl ([(z_W E xa na ma mb ad tx ln nx ct f0 f1 g ga gb v).flatten] : List va_W).flatten H := zf_sub hP [0] rfl
      have hDc : va_D A ([(z_W E xa na ma mb ad tx ln nx ct f0 f1 g ga gb v).flatten] : List va_W).flatten := zf_subD hD [0] (by decide) rfl
      refine z_mut (Sc := [(z_W E xa na ma mb ad tx ln nx ct f0 f1 g ga gb v).flatten]) (Sr := []) (W1 := [(z_W E xa na ma mb ad tx ln (nI ((m_n nx + 1) % 6)) (nI (if m_n ct < 6 then m_n ct + 1 else 6)) f0 f1 (m_swC g (a_od y)) ga gb (va_up v (m_n nx) g)).flatten]) (va_runV (As := [.int (a_od y)]) (rest := []) ⟨hx, hb, hml, hown, hts⟩ (c_X9_setStation l E xa na ma mb ad tx ln nx ct f0 f1 g ga gb v hw (a_od y) (a_od01 y) H.size) (cwV 1 hts gL_acts_X9_setStation rfl rfl rfl (by decide +kernel) ⟨Nat.le_of_ble_eq_true rfl, Nat.le_of_ble_eq_true rfl⟩) ⟨zP.blind, va_recv hK.1 hPc (ci := 8) (q0 := 0) rfl rfl, z_pre hK hPc hDc⟩ rfl rfl hl.1 rfl (lv_room (Nat.le_of_ble_eq_true rfl)) dL_acts_74 ⟨Nat.le_of_ble_eq_true rfl, Nat.le_of_ble_eq_true rfl⟩) hP hD hS hA [0] [] rfl rfl (by decide) (by decide) (fun H locs hP hD hS => ?_)
      have hP : va_P E.1 vwCl ([(z_W E xa na ma mb ad tx ln (nI ((m_n nx + 1) % 6)) (nI (if m_n ct < 6 then m_n ct + 1 else 6)) f0 f1 (m_swC g (a_od y)) ga gb (va_up v (m_n nx) g)).flatten] : List va_W).flatten H := hP
      have hD : va_D A ([(z_W E xa na ma mb ad tx ln (nI ((m_n nx + 1) % 6)) (nI (if m_n ct < 6 then m_n ct + 1 else 6)) f0 f1 (m_swC g (a_od y)) ga gb (va_up v (m_n nx) g)).flatten] : List va_W).flatten := hD
      refine W.eq (g2 := F0 Mi 77 ls [.int (g 2)]) rfl ?_
      have hw_4 : z_wk ln (nI ((m_n nx + 1) % 6)) (nI (if m_n ct < 6 then m_n ct + 1 else 6)) f0 f1 (m_swC g (a_od y)) ga gb (va_up v (m_n nx) g) := z_wk_save hw (show z_ok (m_swC g (a_od y)) from z_ok_sw hw.1 (a_od01 y))
      refine lv_iload_n hx hb dL_acts_77 rfl (lv_at hl 0 rfl) ?_
      refine lv_icmp_ne (tgt := 119) hx hb dL_acts_78 (by decide) (fun h9 => absurd (rfl) h9) (fun _ => ?_)
      refine lv_aload_n hx hb dL_acts_81 rfl (lv_at hl 1 rfl) ?_
      have hPc : va_P E.1 vwCl ([(z_W E xa na ma mb ad tx ln (nI ((m_n nx + 1) % 6)) (nI (if m_n ct < 6 then m_n ct + 1 else 6)) f0 f1 (m_swC g (a_od y)) ga gb (va_up v (m_n nx) g)).flatten] : List va_W).flatten H := zf_sub hP [0] rfl
      refine z_rdv (va_runV (As := []) (rest := []) ⟨hx, hb, hml, hown, hts⟩ (c_X9_isStation l E xa na ma mb ad tx ln (nI ((m_n nx + 1) % 6)) (nI (if m_n ct < 6 then m_n ct + 1 else 6)) f0 f1 (m_swC g (a_od y)) ga gb (va_up v (m_n nx) g) hw_4) (cwV 0 hts gL_acts_X9_isStation rfl rfl rfl (by decide +kernel) ⟨Nat.le_of_ble_eq_true rfl, Nat.le_of_ble_eq_true rfl⟩) ⟨zPr.blind, va_recv hK.1 hPc (ci := 8) (q0 := 0) rfl rfl, z_prer hK hPc⟩ rfl rfl hl.1 rfl (lv_room (Nat.le_of_ble_eq_true rfl)) dL_acts_82 ⟨Nat.le_of_ble_eq_true rfl, Nat.le_of_ble_eq_true rfl⟩) ?_
      refine W.eq (g2 := F0 Mi 85 ls [.int ((m_swC g (a_od y)) 2)]) rfl ?_
      refine lv_iload_n hx hb dL_acts_85 rfl (lv_at hl 3 rfl) ?_
      refine lv_iconst (v := 1) hx hb dL_acts_86 (by decide) ?_
      refine lv_iand hx hb dL_acts_87 ?_
      refine lv_iconst (v := 1) hx hb dL_acts_88 (by decide) ?_
      refine lv_icmp_ne (tgt := 96) hx hb dL_acts_89 (by decide) (fun h9 => absurd (c_66) h9) (fun _ => ?_)
      refine lv_iconst (v := 1) hx hb dL_acts_92 (by decide) ?_
      refine lv_goto (tgt := 97) hx hb dL_acts_93 (by decide) ?_
      refine z_topi (y := a_od y) (by rw [a_od, if_pos c_66]) ?_
      refine lv_icmp_ne (tgt := 119) hx hb dL_acts_97 (by decide) (fun h9 => absurd (s_2) h9) (fun _ => ?_)
      refine lv_aload_n hx hb dL_acts_100 rfl (lv_at hl 1 rfl) ?_
      have hPc : va_P E.1 vwCl ([(z_W E xa na ma mb ad tx ln (nI ((m_n nx + 1) % 6)) (nI (if m_n ct < 6 then m_n ct + 1 else 6)) f0 f1 (m_swC g (a_od y)) ga gb (va_up v (m_n nx) g)).flatten] : List va_W).flatten H := zf_sub hP [0] rfl
      refine z_rdv (va_runV (As := []) (rest := []) ⟨hx, hb, hml, hown, hts⟩ (c_X9_isStation l E xa na ma mb ad tx ln (nI ((m_n nx + 1) % 6)) (nI (if m_n ct < 6 then m_n ct + 1 else 6)) f0 f1 (m_swC g (a_od y)) ga gb (va_up v (m_n nx) g) hw_4) (cwV 0 hts gL_acts_X9_isStation rfl rfl rfl (by decide +kernel) ⟨Nat.le_of_ble_eq_true rfl, Nat.le_of_ble_eq_true rfl⟩) ⟨zPr.blind, va_recv hK.1 hPc (ci := 8) (q0 := 0) rfl rfl, z_prer hK hPc⟩ rfl rfl hl.1 rfl (lv_room (Nat.le_of_ble_eq_true rfl)) dL_acts_101 ⟨Nat.le_of_ble_eq_true rfl, Nat.le_of_ble_eq_true rfl⟩) ?_
      refine W.eq (g2 := F0 Mi 104 ls [.int ((m_swC g (a_od y)) 2)]) rfl ?_
      refine lv_iload_n hx hb dL_acts_104 rfl (lv_at hl 0 rfl) ?_
      refine lv_icmp_eq (tgt := 115) hx hb dL_acts_105 (by decide) (fun c_105 => ?_) (fun c_105 => ?_)
      · refine lv_iconst (v := 1) hx hb dL_acts_115 (by decide) ?_
        refine lv_goto (tgt := 120) hx hb dL_acts_116 (by decide) ?_
        have hP : va_P E.1 vwCl ([(z_W E xa na ma mb ad tx ln (nI ((m_n nx + 1) % 6)) (nI (if m_n ct < 6 then m_n ct + 1 else 6)) f0 f1 (m_swC g (a_od y)) ga gb (va_up v (m_n nx) g)).flatten] : List va_W).flatten H := zf_sub hP [0] rfl
        have hD : va_D A ([(z_W E xa na ma mb ad tx ln (nI ((m_n nx + 1) % 6)) (nI (if m_n ct < 6 then m_n ct + 1 else 6)) f0 f1 (m_swC g (a_od y)) ga gb (va_up v (m_n nx) g)).flatten] : List va_W).flatten := zf_subD hD [0] (by decide) rfl
        refine W.widen (k := 7) (n := 40) (by decide) (by decide) ?_
        refine vx_ret ?_
        exact W.zret (v := 1) hx hb hr rfl (z_ende trivial hP hD hS rfl) hS.2.2 dL_acts_120 hlocks
      · refine lv_aload_n hx hb dL_acts_108 rfl (lv_at hl 1 rfl) ?_
        have hPc : va_P E.1 vwCl ([(z_W E xa na ma mb ad tx ln (nI ((m_n nx + 1) % 6)) (nI (if m_n ct < 6 then m_n ct + 1 else 6)) f0 f1 (m_swC g (a_od y)) ga gb (va_up v (m_n nx) g)).flatten] : List va_W).flatten H := zf_sub hP [0] rfl
        refine z_rdv (va_runV (As := []) (rest := []) ⟨hx, hb, hml, hown, hts⟩ (c_X9_logged l E xa na ma mb ad tx ln (nI ((m_n nx + 1) % 6)) (nI (if m_n ct < 6 then m_n ct + 1 else 6)) f0 f1 (m_swC g (a_od y)) ga gb (va_up v (m_n nx) g) hw_4) (cwV 0 hts gL_acts_X9_logged rfl rfl rfl (by decide +kernel) ⟨Nat.le_of_ble_eq_true rfl, Nat.le_of_ble_eq_true rfl⟩) ⟨zPr.blind, va_recv hK.1 hPc (ci := 8) (q0 := 0) rfl rfl, z_prer hK hPc⟩ rfl rfl hl.1 rfl (lv_room (Nat.le_of_ble_eq_true rfl)) dL_acts_109 ⟨Nat.le_of_ble_eq_true rfl, Nat.le_of_ble_eq_true rfl⟩) ?_
        refine W.eq (g2 := F0 Mi 112 ls [.int ((m_swC g (a_od y)) 14)]) rfl ?_
        refine lv_if_ne (tgt := 119) hx hb dL_acts_112 (by decide) (fun h9 => absurd (s_14 c_105) h9) (fun _ => ?_)
        refine lv_iconst (v := 1) hx hb dL_acts_115 (by decide) ?_
        refine lv_goto (tgt := 120) hx hb dL_acts_116 (by decide) ?_
        have hP : va_P E.1 vwCl ([(z_W E xa na ma mb ad tx ln (nI ((m_n nx + 1) % 6)) (nI (if m_n ct < 6 then m_n ct + 1 else 6)) f0 f1 (m_swC g (a_od y)) ga gb (va_up v (m_n nx) g)).flatten] : List va_W).flatten H := zf_sub hP [0] rfl
        have hD : va_D A ([(z_W E xa na ma mb ad tx ln (nI ((m_n nx + 1) % 6)) (nI (if m_n ct < 6 then m_n ct + 1 else 6)) f0 f1 (m_swC g (a_od y)) ga gb (va_up v (m_n nx) g)).flatten] : List va_W).flatten := zf_subD hD [0] (by decide) rfl
        refine W.widen (k := 7) (n := 40) (by decide) (by decide) ?_
        refine vx_ret ?_
        exact W.zret (v := 1) hx hb hr rfl (z_ende trivial hP hD hS rfl) hS.2.2 dL_acts_120 hlocks
  | 2, hj, _ =>
    refine z_topi hj ?_
    refine lv_tableIn (off := 115) (tgt := 121) hx hb dL_acts_6 (by decide) (by decide) rfl (by decide) ?_
    refine lv_aload_n hx hb dL_acts_121 rfl (lv_at hl 0 rfl) ?_
    have hPc : va_P E.1 vwCl ([(z_W E xa na ma mb ad tx ln nx ct f0 f1 g ga gb v).flatten] : List va_W).flatten H := zf_sub hP [0] rfl
    refine z_rdv (va_runV (As := []) (rest := []) ⟨hx, hb, hml, hown, hts⟩ (c_X9_sea l E xa na ma mb ad tx ln nx ct f0 f1 g ga gb v hw) (cwV 0 hts gL_acts_X9_sea rfl rfl rfl (by decide +kernel) ⟨Nat.le_of_ble_eq_true rfl, Nat.le_of_ble_eq_true rfl⟩) ⟨zPr.blind, va_recv hK.1 hPc (ci := 8) (q0 := 0) rfl rfl, z_prer hK hPc⟩ rfl rfl hl.1 rfl (lv_room (Nat.le_of_ble_eq_true rfl)) dL_acts_122 ⟨Nat.le_of_ble_eq_true rfl, Nat.le_of_ble_eq_true rfl⟩) ?_
    refine W.eq (g2 := F0 Mi 125 ls [.int (g 1)]) rfl ?_
    refine lv_istore (lv' := [(4, .int (g 1)), (0, .ref (xa 0)), (1, .int x), (2, .int y)]) hx hb dL_acts_125 hl (by decide) rfl (fun ls hl => ?_)
    refine lv_aload_n hx hb dL_acts_127 rfl (lv_at hl 1 rfl) ?_
    refine lv_sipush (v := 9000) hx hb dL_acts_128 (by decide) ?_
    refine lv_iload_n hx hb dL_acts_131 rfl (lv_at hl 3 rfl) ?_
    refine lv_sipush (v := 1801) hx hb dL_acts_132 (by decide) ?_
    refine z_rdv (va_runS (As := [.int y, .int 1801]) (rest := [.int 9000, .ref (xa 0)]) ⟨hx, hb, hml, hown, hts⟩ (c_L_up l E y 1801 (by decide)) (va_cwS 2 hts gL_acts_L_up rfl rfl rfl (by decide +kernel) ⟨Nat.le_of_ble_eq_true rfl, Nat.le_of_ble_eq_true rfl⟩) ⟨zPr.blind, z_prer hK zP_nil⟩ rfl rfl hl.1 rfl (lv_room (Nat.le_of_ble_eq_true rfl)) dL_acts_135 ⟨Nat.le_of_ble_eq_true rfl, Nat.le_of_ble_eq_true rfl⟩) ?_
    refine W.eq (g2 := F0 Mi 138 ls [.int (a_up y 1801), .int 9000, .ref (xa 0)]) rfl ?_
    refine lv_iadd hx hb dL_acts_138 ?_
    have ph_139 : 9000 ≤ (9000 + (a_up y 1801)) ∧ (9000 + (a_up y 1801)) ≤ 10800 := a_sea y
    have hPc : va_P E.1 vwCl ([(z_W E xa na ma mb ad tx ln nx ct f0 f1 g ga gb v).flatten] : List va_W).flatten H := zf_sub hP [0] rfl
    have hDc : va_D A ([(z_W E xa na ma mb ad tx ln nx ct f0 f1 g ga gb v).flatten] : List va_W).flatten := zf_subD hD [0] (by decide) rfl
    refine z_xmut (Sc := [(z_W E xa na ma mb ad tx ln nx ct f0 f1 g ga gb v).flatten]) (Sr := []) (W1 := [(z_W E xa na ma mb ad tx ln (nI ((m_n nx + 1) % 6)) (nI (if m_n ct < 6 then m_n ct + 1 else 6)) f0 f1 (m_seaC g (9000 + (a_up y 1801))) ga gb (va_up v (m_n nx) g)).flatten]) (vx_runV (As := [.int (9000 + (a_up y 1801))]) (rest := []) ⟨hx, hb, hml, hown, hts⟩ (c_X9_setSea l E sa hl0 xa na ma mb ad tx ln nx ct f0 f1 g ga gb v hw (9000 + (a_up y 1801)) H.size) (cwV 1 hts gL_acts_X9_setSea rfl rfl rfl (by decide +kernel) ⟨Nat.le_of_ble_eq_true rfl, Nat.le_of_ble_eq_true rfl⟩) ⟨zPE.blind, va_recv hK.1 hPc (ci := 8) (q0 := 0) rfl rfl, z_preE hK hT hZ hS (zf_free hD hS hA [0] rfl) hPc hDc⟩ rfl rfl hl.1 rfl (lv_room (Nat.le_of_ble_eq_true rfl)) dL_acts_139 ⟨Nat.le_of_ble_eq_true rfl, Nat.le_of_ble_eq_true rfl⟩) hP hD hS hA [0] [] rfl rfl (by decide) (by decide) (fun Ex ce q9 H locs hps hP hD hS hce hcv hcl => ?_) (fun H locs _ hP hD hS => ?_)
    · exact (absurd ph_139 hps.2)
    have hP : va_P E.1 vwCl ([(z_W E xa na ma mb ad tx ln (nI ((m_n nx + 1) % 6)) (nI (if m_n ct < 6 then m_n ct + 1 else 6)) f0 f1 (m_seaC g (9000 + (a_up y 1801))) ga gb (va_up v (m_n nx) g)).flatten] : List va_W).flatten H := hP
    have hD : va_D A ([(z_W E xa na ma mb ad tx ln (nI ((m_n nx + 1) % 6)) (nI (if m_n ct < 6 then m_n ct + 1 else 6)) f0 f1 (m_seaC g (9000 + (a_up y 1801))) ga gb (va_up v (m_n nx) g)).flatten] : List va_W).flatten := hD
    refine W.widen (k := 1) (n := 6) (by decide) (by decide) ?_
    refine W.eq (g2 := F0 Mi 142 ls [.int (g 1)]) rfl ?_
    have hw_5 : z_wk ln (nI ((m_n nx + 1) % 6)) (nI (if m_n ct < 6 then m_n ct + 1 else 6)) f0 f1 (m_seaC g (9000 + (a_up y 1801))) ga gb (va_up v (m_n nx) g) := z_wk_save hw (show z_ok (m_seaC g (9000 + (a_up y 1801))) from z_ok_sea hw.1)
    refine lv_iload hx hb dL_acts_142 (lv_at hl 0 rfl) ?_
    refine lv_icmp_ne (tgt := 162) hx hb dL_acts_144 (by decide) (fun h9 => absurd (rfl) h9) (fun _ => ?_)
    refine lv_aload_n hx hb dL_acts_147 rfl (lv_at hl 1 rfl) ?_
    have hPc : va_P E.1 vwCl ([(z_W E xa na ma mb ad tx ln (nI ((m_n nx + 1) % 6)) (nI (if m_n ct < 6 then m_n ct + 1 else 6)) f0 f1 (m_seaC g (9000 + (a_up y 1801))) ga gb (va_up v (m_n nx) g)).flatten] : List va_W).flatten H := zf_sub hP [0] rfl
    refine z_rdv (va_runV (As := []) (rest := []) ⟨hx, hb, hml, hown, hts⟩ (c_X9_base l E xa na ma mb ad tx ln (nI ((m_n nx + 1) % 6)) (nI (if m_n ct < 6 then m_n ct + 1 else 6)) f0 f1 (m_seaC g (9000 + (a_up y 1801))) ga gb (va_up v (m_n nx) g) hw_5) (cwV 0 hts gL_acts_X9_base rfl rfl rfl (by decide +kernel) ⟨Nat.le_of_ble_eq_true rfl, Nat.le_of_ble_eq_true rfl⟩) ⟨zPr.blind, va_recv hK.1 hPc (ci := 8) (q0 := 0) rfl rfl, z_prer hK hPc⟩ rfl rfl hl.1 rfl (lv_room (Nat.le_of_ble_eq_true rfl)) dL_acts_148 ⟨Nat.le_of_ble_eq_true rfl, Nat.le_of_ble_eq_true rfl⟩) ?_
    refine W.eq (g2 := F0 Mi 151 ls [.int ((m_seaC g (9000 + (a_up y 1801))) 9)]) rfl ?_
    refine lv_aload_n hx hb dL_acts_151 rfl (lv_at hl 1 rfl) ?_
    have hPc : va_P E.1 vwCl ([(z_W E xa na ma mb ad tx ln (nI ((m_n nx + 1) % 6)) (nI (if m_n ct < 6 then m_n ct + 1 else 6)) f0 f1 (m_seaC g (9000 + (a_up y 1801))) ga gb (va_up v (m_n nx) g)).flatten] : List va_W).flatten H := zf_sub hP [0] rfl
    refine z_rdv (va_runV (As := []) (rest := [.int ((m_seaC g (9000 + (a_up y 1801))) 9)]) ⟨hx, hb, hml, hown, hts⟩ (c_X9_altitude l E xa na ma mb ad tx ln (nI ((m_n nx + 1) % 6)) (nI (if m_n ct < 6 then m_n ct + 1 else 6)) f0 f1 (m_seaC g (9000 + (a_up y 1801))) ga gb (va_up v (m_n nx) g) hw_5) (cwV 0 hts gL_acts_X9_altitude rfl rfl rfl (by decide +kernel) ⟨Nat.le_of_ble_eq_true rfl, Nat.le_of_ble_eq_true rfl⟩) ⟨zPr.blind, va_recv hK.1 hPc (ci := 8) (q0 := 0) rfl rfl, z_prer hK hPc⟩ rfl rfl hl.1 rfl (lv_room (Nat.le_of_ble_eq_true rfl)) dL_acts_152 ⟨Nat.le_of_ble_eq_true rfl, Nat.le_of_ble_eq_true rfl⟩) ?_
    refine W.eq (g2 := F0 Mi 155 ls [.int (m_std ((m_seaC g (9000 + (a_up y 1801))) 0) - m_std ((m_seaC g (9000 + (a_up y 1801))) 1)), .int ((m_seaC g (9000 + (a_up y 1801))) 9)]) rfl ?_
    refine lv_icmp_ne (tgt := 162) hx hb dL_acts_155 (by decide) (fun h9 => absurd (sea_b) h9) (fun _ => ?_)
    refine lv_iconst (v := 1) hx hb dL_acts_158 (by decide) ?_
    refine lv_goto (tgt := 163) hx hb dL_acts_159 (by decide) ?_
    have hP : va_P E.1 vwCl ([(z_W E xa na ma mb ad tx ln (nI ((m_n nx + 1) % 6)) (nI (if m_n ct < 6 then m_n ct + 1 else 6)) f0 f1 (m_seaC g (9000 + (a_up y 1801))) ga gb (va_up v (m_n nx) g)).flatten] : List va_W).flatten H := zf_sub hP [0] rfl
    have hD : va_D A ([(z_W E xa na ma mb ad tx ln (nI ((m_n nx + 1) % 6)) (nI (if m_n ct < 6 then m_n ct + 1 else 6)) f0 f1 (m_seaC g (9000 + (a_up y 1801))) ga gb (va_up v (m_n nx) g)).flatten] : List va_W).flatten := zf_subD hD [0] (by decide) rfl
    refine W.widen (k := 7) (n := 40) (by decide) (by decide) ?_
    refine vx_ret ?_
    exact W.zret (v := 1) hx hb hr rfl (z_ende trivial hP hD hS rfl) hS.2.2 dL_acts_163 hlocks
  | 3, hj, _ =>
    refine z_topi hj ?_
    refine lv_tableIn (off := 158) (tgt := 164) hx hb dL_acts_6 (by decide) (by decide) rfl (by decide) ?_
    refine lv_iload_n hx hb dL_acts_164 rfl (lv_at hl 2 rfl) ?_
    refine lv_iconst (v := 1) hx hb dL_acts_165 (by decide) ?_
    refine lv_iand hx hb dL_acts_166 ?_
    refine lv_if_ne (tgt := 185) hx hb dL_acts_167 (by decide) (fun c_167 => ?_) (fun c_167 => ?_)
    · refine lv_aload_n hx hb dL_acts_185 rfl (lv_at hl 0 rfl) ?_
      have hPc : va_P E.1 vwCl ([(z_W E xa na ma mb ad tx ln nx ct f0 f1 g ga gb v).flatten] : List va_W).flatten H := zf_sub hP [0] rfl
      refine z_rdv (va_runV (As := []) (rest := []) ⟨hx, hb, hml, hown, hts⟩ (c_X9_altitude l E xa na ma mb ad tx ln nx ct f0 f1 g ga gb v hw) (cwV 0 hts gL_acts_X9_altitude rfl rfl rfl (by decide +kernel) ⟨Nat.le_of_ble_eq_true rfl, Nat.le_of_ble_eq_true rfl⟩) ⟨zPr.blind, va_recv hK.1 hPc (ci := 8) (q0 := 0) rfl rfl, z_prer hK hPc⟩ rfl rfl hl.1 rfl (lv_room (Nat.le_of_ble_eq_true rfl)) dL_acts_186 ⟨Nat.le_of_ble_eq_true rfl, Nat.le_of_ble_eq_true rfl⟩) ?_
      refine W.eq (g2 := F0 Mi 189 ls [.int (m_std (g 0) - m_std (g 1))]) rfl ?_
      refine lv_iload_n hx hb dL_acts_189 rfl (lv_at hl 2 rfl) ?_
      refine lv_iconst (v := 1) hx hb dL_acts_190 (by decide) ?_
      refine lv_ishr hx hb dL_acts_191 ?_
      refine lv_sipush (v := 601) hx hb dL_acts_192 (by decide) ?_
      refine z_rdv (va_runS (As := [.int (y >>> (1 &&& 31)), .int 601]) (rest := [.int (m_std (g 0) - m_std (g 1))]) ⟨hx, hb, hml, hown, hts⟩ (c_L_up l E (y >>> (1 &&& 31)) 601 (by decide)) (va_cwS 2 hts gL_acts_L_up rfl rfl rfl (by decide +kernel) ⟨Nat.le_of_ble_eq_true rfl, Nat.le_of_ble_eq_true rfl⟩) ⟨zPr.blind, z_prer hK zP_nil⟩ rfl rfl hl.1 rfl (lv_room (Nat.le_of_ble_eq_true rfl)) dL_acts_195 ⟨Nat.le_of_ble_eq_true rfl, Nat.le_of_ble_eq_true rfl⟩) ?_
      refine W.eq (g2 := F0 Mi 198 ls [.int (a_up (y >>> (1 &&& 31)) 601), .int (m_std (g 0) - m_std (g 1))]) rfl ?_
      refine lv_iadd hx hb dL_acts_198 ?_
      refine lv_sipush (v := 300) hx hb dL_acts_199 (by decide) ?_
      refine lv_isub hx hb dL_acts_202 ?_
      refine lv_sipush (v := (-5000)) hx hb dL_acts_203 (by decide) ?_
      refine lv_ldc hx hb hown (hts (.constant RL 43 (50000)) (by decide +kernel)) dL_acts_206 ?_
      refine z_rdv (va_runS (As := [.int (((m_std (g 0) - m_std (g 1)) + (a_up (y >>> (1 &&& 31)) 601)) - 300), .int (-5000), .int (50000)]) (rest := []) ⟨hx, hb, hml, hown, hts⟩ (c_L_within l E (((m_std (g 0) - m_std (g 1)) + (a_up (y >>> (1 &&& 31)) 601)) - 300) (-5000) (50000)) (va_cwS 3 hts gL_acts_L_within rfl rfl rfl (by decide +kernel) ⟨Nat.le_of_ble_eq_true rfl, Nat.le_of_ble_eq_true rfl⟩) ⟨zPr.blind, z_prer hK zP_nil⟩ rfl rfl hl.1 rfl (lv_room (Nat.le_of_ble_eq_true rfl)) dL_acts_208 ⟨Nat.le_of_ble_eq_true rfl, Nat.le_of_ble_eq_true rfl⟩) ?_
      refine W.eq (g2 := F0 Mi 211 ls [.int (a_wi (((m_std (g 0) - m_std (g 1)) + (a_up (y >>> (1 &&& 31)) 601)) - 300) (-5000) (50000))]) rfl ?_
      refine z_topi (y := a_al g y) (by rw [a_al, if_neg c_167]) ?_
      refine lv_istore (lv' := [(5, .int (a_al g y)), (0, .ref (xa 0)), (1, .int x), (2, .int y)]) hx hb dL_acts_211 hl (by decide) rfl (fun ls hl => ?_)
      refine lv_aload_n hx hb dL_acts_213 rfl (lv_at hl 1 rfl) ?_
      have hPc : va_P E.1 vwCl ([(z_W E xa na ma mb ad tx ln nx ct f0 f1 g ga gb v).flatten] : List va_W).flatten H := zf_sub hP [0] rfl
      refine z_rdv (va_runV (As := []) (rest := []) ⟨hx, hb, hml, hown, hts⟩ (c_X9_altitude l E xa na ma mb ad tx ln nx ct f0 f1 g ga gb v hw) (cwV 0 hts gL_acts_X9_altitude rfl rfl rfl (by decide +kernel) ⟨Nat.le_of_ble_eq_true rfl, Nat.le_of_ble_eq_true rfl⟩) ⟨zPr.blind, va_recv hK.1 hPc (ci := 8) (q0 := 0) rfl rfl, z_prer hK hPc⟩ rfl rfl hl.1 rfl (lv_room (Nat.le_of_ble_eq_true rfl)) dL_acts_214 ⟨Nat.le_of_ble_eq_true rfl, Nat.le_of_ble_eq_true rfl⟩) ?_
      refine W.eq (g2 := F0 Mi 217 ls [.int (m_std (g 0) - m_std (g 1))]) rfl ?_
      refine lv_iload hx hb dL_acts_217 (lv_at hl 0 rfl) ?_
      refine lv_isub hx hb dL_acts_219 ?_
      refine lv_istore (lv' := [(6, .int ((m_std (g 0) - m_std (g 1)) - (a_al g y))), (5, .int (a_al g y)), (0, .ref (xa 0)), (1, .int x), (2, .int y)]) hx hb dL_acts_220 hl (by decide) rfl (fun ls hl => ?_)
      refine lv_aload_n hx hb dL_acts_222 rfl (lv_at hl 2 rfl) ?_
      have hPc : va_P E.1 vwCl ([(z_W E xa na ma mb ad tx ln nx ct f0 f1 g ga gb v).flatten] : List va_W).flatten H := zf_sub hP [0] rfl
      refine z_rdv (va_runV (As := []) (rest := []) ⟨hx, hb, hml, hown, hts⟩ (c_X9_drift l E xa na ma mb ad tx ln nx ct f0 f1 g ga gb v hw) (cwV 0 hts gL_acts_X9_drift rfl rfl rfl (by decide +kernel) ⟨Nat.le_of_ble_eq_true rfl, Nat.le_of_ble_eq_true rfl⟩) ⟨zPr.blind, va_recv hK.1 hPc (ci := 8) (q0 := 0) rfl rfl, z_prer hK hPc⟩ rfl rfl hl.1 rfl (lv_room (Nat.le_of_ble_eq_true rfl)) dL_acts_223 ⟨Nat.le_of_ble_eq_true rfl, Nat.le_of_ble_eq_true rfl⟩) ?_
      refine W.eq (g2 := F0 Mi 226 ls [.int (g 5)]) rfl ?_
      refine lv_istore (lv' := [(7, .int (g 5)), (6, .int ((m_std (g 0) - m_std (g 1)) - (a_al g y))), (5, .int (a_al g y)), (0, .ref (xa 0)), (1, .int x), (2, .int y)]) hx hb dL_acts_226 hl (by decide) rfl (fun ls hl => ?_)
      refine lv_aload_n hx hb dL_acts_228 rfl (lv_at hl 3 rfl) ?_
      have hPc : va_P E.1 vwCl ([(z_W E xa na ma mb ad tx ln nx ct f0 f1 g ga gb v).flatten] : List va_W).flatten H := zf_sub hP [0] rfl
      refine z_rdv (va_runV (As := []) (rest := []) ⟨hx, hb, hml, hown, hts⟩ (c_X9_calibrations l E xa na ma mb ad tx ln nx ct f0 f1 g ga gb v hw) (cwV 0 hts gL_acts_X9_calibrations rfl rfl rfl (by decide +kernel) ⟨Nat.le_of_ble_eq_true rfl, Nat.le_of_ble_eq_true rfl⟩) ⟨zPr.blind, va_recv hK.1 hPc (ci := 8) (q0 := 0) rfl rfl, z_prer hK hPc⟩ rfl rfl hl.1 rfl (lv_room (Nat.le_of_ble_eq_true rfl)) dL_acts_229 ⟨Nat.le_of_ble_eq_true rfl, Nat.le_of_ble_eq_true rfl⟩) ?_
      refine W.eq (g2 := F0 Mi 232 ls [.int (g 6)]) rfl ?_
      refine lv_istore (lv' := [(8, .int (g 6)), (7, .int (g 5)), (6, .int ((m_std (g 0) - m_std (g 1)) - (a_al g y))), (5, .int (a_al g y)), (0, .ref (xa 0)), (1, .int x), (2, .int y)]) hx hb dL_acts_232 hl (by decide) rfl (fun ls hl => ?_)
      refine lv_aload_n hx hb dL_acts_234 rfl (lv_at hl 4 rfl) ?_
      refine lv_iload hx hb dL_acts_235 (lv_at hl 3 rfl) ?_
      have ph_237 : -5000 ≤ (a_al g y) ∧ (a_al g y) ≤ 50000 := a_al_r g y
      have hPc : va_P E.1 vwCl ([(z_W E xa na ma mb ad tx ln nx ct f0 f1 g ga gb v).flatten] : List va_W).flatten H := zf_sub hP [0] rfl
      have hDc : va_D A ([(z_W E xa na ma mb ad tx ln nx ct f0 f1 g ga gb v).flatten] : List va_W).flatten := zf_subD hD [0] (by decide) rfl
      refine z_xmut (Sc := [(z_W E xa na ma mb ad tx ln nx ct f0 f1 g ga gb v).flatten]) (Sr := []) (W1 := [(z_W E xa na ma mb ad tx ln (nI ((m_n nx + 1) % 6)) (nI (if m_n ct < 6 then m_n ct + 1 else 6)) f0 f1 (m_calC g (a_al g y)) ga gb (va_up v (m_n nx) g)).flatten]) (vx_runV (As := [.int (a_al g y)]) (rest := []) ⟨hx, hb, hml, hown, hts⟩ (c_X9_calibrate l E sa hl0 xa na ma mb ad tx ln nx ct f0 f1 g ga gb v hw (a_al g y) H.size) (cwV 1 hts gL_acts_X9_calibrate rfl rfl rfl (by decide +kernel) ⟨Nat.le_of_ble_eq_true rfl, Nat.le_of_ble_eq_true rfl⟩) ⟨zPE.blind, va_recv hK.1 hPc (ci := 8) (q0 := 0) rfl rfl, z_preE hK hT hZ hS (zf_free hD hS hA [0] rfl) hPc hDc⟩ rfl rfl hl.1 rfl (lv_room (Nat.le_of_ble_eq_true rfl)) dL_acts_237 ⟨Nat.le_of_ble_eq_true rfl, Nat.le_of_ble_eq_true rfl⟩) hP hD hS hA [0] [] rfl rfl (by decide) (by decide) (fun Ex ce q9 H locs hps hP hD hS hce hcv hcl => ?_) (fun H locs _ hP hD hS => ?_)
      · exact (absurd ph_237 hps.2)
      have hP : va_P E.1 vwCl ([(z_W E xa na ma mb ad tx ln (nI ((m_n nx + 1) % 6)) (nI (if m_n ct < 6 then m_n ct + 1 else 6)) f0 f1 (m_calC g (a_al g y)) ga gb (va_up v (m_n nx) g)).flatten] : List va_W).flatten H := hP
      have hD : va_D A ([(z_W E xa na ma mb ad tx ln (nI ((m_n nx + 1) % 6)) (nI (if m_n ct < 6 then m_n ct + 1 else 6)) f0 f1 (m_calC g (a_al g y)) ga gb (va_up v (m_n nx) g)).flatten] : List va_W).flatten := hD
      refine W.widen (k := 1) (n := 6) (by decide) (by decide) ?_
      refine W.eq (g2 := F0 Mi 240 ls [.int (m_std (g 0) - m_std (g 1) - (a_al g y))]) rfl ?_
      have hw_6 : z_wk ln (nI ((m_n nx + 1) % 6)) (nI (if m_n ct < 6 then m_n ct + 1 else 6)) f0 f1 (m_calC g (a_al g y)) ga gb (va_up v (m_n nx) g) := z_wk_save hw (show z_ok (m_calC g (a_al g y)) from z_ok_cal hw.1)
      refine lv_iload hx hb dL_acts_240 (lv_at hl 2 rfl) ?_
      refine lv_icmp_ne (tgt := 283) hx hb dL_acts_242 (by decide) (fun h9 => absurd (rfl) h9) (fun _ => ?_)
      refine lv_aload_n hx hb dL_acts_245 rfl (lv_at hl 4 rfl) ?_
      have hPc : va_P E.1 vwCl ([(z_W E xa na ma mb ad tx ln (nI ((m_n nx + 1) % 6)) (nI (if m_n ct < 6 then m_n ct + 1 else 6)) f0 f1 (m_calC g (a_al g y)) ga gb (va_up v (m_n nx) g)).flatten] : List va_W).flatten H := zf_sub hP [0] rfl
      refine z_rdv (va_runV (As := []) (rest := []) ⟨hx, hb, hml, hown, hts⟩ (c_X9_drift l E xa na ma mb ad tx ln (nI ((m_n nx + 1) % 6)) (nI (if m_n ct < 6 then m_n ct + 1 else 6)) f0 f1 (m_calC g (a_al g y)) ga gb (va_up v (m_n nx) g) hw_6) (cwV 0 hts gL_acts_X9_drift rfl rfl rfl (by decide +kernel) ⟨Nat.le_of_ble_eq_true rfl, Nat.le_of_ble_eq_true rfl⟩) ⟨zPr.blind, va_recv hK.1 hPc (ci := 8) (q0 := 0) rfl rfl, z_prer hK hPc⟩ rfl rfl hl.1 rfl (lv_room (Nat.le_of_ble_eq_true rfl)) dL_acts_246 ⟨Nat.le_of_ble_eq_true rfl, Nat.le_of_ble_eq_true rfl⟩) ?_
      refine W.eq (g2 := F0 Mi 249 ls [.int ((m_calC g (a_al g y)) 5)]) rfl ?_
      refine lv_iload hx hb dL_acts_249 (lv_at hl 1 rfl) ?_
      refine lv_iload hx hb dL_acts_251 (lv_at hl 2 rfl) ?_
      refine lv_iadd hx hb dL_acts_253 ?_
      refine lv_icmp_ne (tgt := 283) hx hb dL_acts_254 (by decide) (fun h9 => absurd (rfl) h9) (fun _ => ?_)
      refine lv_aload_n hx hb dL_acts_257 rfl (lv_at hl 4 rfl) ?_
      have hPc : va_P E.1 vwCl ([(z_W E xa na ma mb ad tx ln (nI ((m_n nx + 1) % 6)) (nI (if m_n ct < 6 then m_n ct + 1 else 6)) f0 f1 (m_calC g (a_al g y)) ga gb (va_up v (m_n nx) g)).flatten] : List va_W).flatten H := zf_sub hP [0] rfl
      refine z_rdv (va_runV (As := []) (rest := []) ⟨hx, hb, hml, hown, hts⟩ (c_X9_calibrations l E xa na ma mb ad tx ln (nI ((m_n nx + 1) % 6)) (nI (if m_n ct < 6 then m_n ct + 1 else 6)) f0 f1 (m_calC g (a_al g y)) ga gb (va_up v (m_n nx) g) hw_6) (cwV 0 hts gL_acts_X9_calibrations rfl rfl rfl (by decide +kernel) ⟨Nat.le_of_ble_eq_true rfl, Nat.le_of_ble_eq_true rfl⟩) ⟨zPr.blind, va_recv hK.1 hPc (ci := 8) (q0 := 0) rfl rfl, z_prer hK hPc⟩ rfl rfl hl.1 rfl (lv_room (Nat.le_of_ble_eq_true rfl)) dL_acts_258 ⟨Nat.le_of_ble_eq_true rfl, Nat.le_of_ble_eq_true rfl⟩) ?_
      refine W.eq (g2 := F0 Mi 261 ls [.int ((m_calC g (a_al g y)) 6)]) rfl ?_
      refine lv_iload hx hb dL_acts_261 (lv_at hl 0 rfl) ?_
      refine lv_iconst (v := 1) hx hb dL_acts_263 (by decide) ?_
      refine lv_iadd hx hb dL_acts_264 ?_
      refine lv_icmp_ne (tgt := 283) hx hb dL_acts_265 (by decide) (fun h9 => absurd (rfl) h9) (fun _ => ?_)
      refine lv_aload_n hx hb dL_acts_268 rfl (lv_at hl 4 rfl) ?_
      have hPc : va_P E.1 vwCl ([(z_W E xa na ma mb ad tx ln (nI ((m_n nx + 1) % 6)) (nI (if m_n ct < 6 then m_n ct + 1 else 6)) f0 f1 (m_calC g (a_al g y)) ga gb (va_up v (m_n nx) g)).flatten] : List va_W).flatten H := zf_sub hP [0] rfl
      refine z_rdv (va_runV (As := []) (rest := []) ⟨hx, hb, hml, hown, hts⟩ (c_X9_base l E xa na ma mb ad tx ln (nI ((m_n nx + 1) % 6)) (nI (if m_n ct < 6 then m_n ct + 1 else 6)) f0 f1 (m_calC g (a_al g y)) ga gb (va_up v (m_n nx) g) hw_6) (cwV 0 hts gL_acts_X9_base rfl rfl rfl (by decide +kernel) ⟨Nat.le_of_ble_eq_true rfl, Nat.le_of_ble_eq_true rfl⟩) ⟨zPr.blind, va_recv hK.1 hPc (ci := 8) (q0 := 0) rfl rfl, z_prer hK hPc⟩ rfl rfl hl.1 rfl (lv_room (Nat.le_of_ble_eq_true rfl)) dL_acts_269 ⟨Nat.le_of_ble_eq_true rfl, Nat.le_of_ble_eq_true rfl⟩) ?_
      refine W.eq (g2 := F0 Mi 272 ls [.int ((m_calC g (a_al g y)) 9)]) rfl ?_
      refine lv_aload_n hx hb dL_acts_272 rfl (lv_at hl 4 rfl) ?_
      have hPc : va_P E.1 vwCl ([(z_W E xa na ma mb ad tx ln (nI ((m_n nx + 1) % 6)) (nI (if m_n ct < 6 then m_n ct + 1 else 6)) f0 f1 (m_calC g (a_al g y)) ga gb (va_up v (m_n nx) g)).flatten] : List va_W).flatten H := zf_sub hP [0] rfl
      refine z_rdv (va_runV (As := []) (rest := [.int ((m_calC g (a_al g y)) 9)]) ⟨hx, hb, hml, hown, hts⟩ (c_X9_altitude l E xa na ma mb ad tx ln (nI ((m_n nx + 1) % 6)) (nI (if m_n ct < 6 then m_n ct + 1 else 6)) f0 f1 (m_calC g (a_al g y)) ga gb (va_up v (m_n nx) g) hw_6) (cwV 0 hts gL_acts_X9_altitude rfl rfl rfl (by decide +kernel) ⟨Nat.le_of_ble_eq_true rfl, Nat.le_of_ble_eq_true rfl⟩) ⟨zPr.blind, va_recv hK.1 hPc (ci := 8) (q0 := 0) rfl rfl, z_prer hK hPc⟩ rfl rfl hl.1 rfl (lv_room (Nat.le_of_ble_eq_true rfl)) dL_acts_273 ⟨Nat.le_of_ble_eq_true rfl, Nat.le_of_ble_eq_true rfl⟩) ?_
      refine W.eq (g2 := F0 Mi 276 ls [.int (m_std ((m_calC g (a_al g y)) 0) - m_std ((m_calC g (a_al g y)) 1)), .int ((m_calC g (a_al g y)) 9)]) rfl ?_
      refine lv_icmp_ne (tgt := 283) hx hb dL_acts_276 (by decide) (fun h9 => absurd (cal_b) h9) (fun _ => ?_)
      refine lv_iconst (v := 1) hx hb dL_acts_279 (by decide) ?_
      refine lv_goto (tgt := 284) hx hb dL_acts_280 (by decide) ?_
      have hP : va_P E.1 vwCl ([(z_W E xa na ma mb ad tx ln (nI ((m_n nx + 1) % 6)) (nI (if m_n ct < 6 then m_n ct + 1 else 6)) f0 f1 (m_calC g (a_al g y)) ga gb (va_up v (m_n nx) g)).flatten] : List va_W).flatten H := zf_sub hP [0] rfl
      have hD : va_D A ([(z_W E xa na ma mb ad tx ln (nI ((m_n nx + 1) % 6)) (nI (if m_n ct < 6 then m_n ct + 1 else 6)) f0 f1 (m_calC g (a_al g y)) ga gb (va_up v (m_n nx) g)).flatten] : List va_W).flatten := zf_subD hD [0] (by decide) rfl
      refine W.widen (k := 7) (n := 40) (by decide) (by decide) ?_
      refine vx_ret ?_
      exact W.zret (v := 1) hx hb hr rfl (z_ende trivial hP hD hS rfl) hS.2.2 dL_acts_284 hlocks
    · refine lv_iload_n hx hb dL_acts_170 rfl (lv_at hl 2 rfl) ?_
      refine lv_iconst (v := 1) hx hb dL_acts_171 (by decide) ?_
      refine lv_ishr hx hb dL_acts_172 ?_
      refine lv_ldc hx hb hown (hts (.constant RL 42 (55001)) (by decide +kernel)) dL_acts_173 ?_
      refine z_rdv (va_runS (As := [.int (y >>> (1 &&& 31)), .int (55001)]) (rest := []) ⟨hx, hb, hml, hown, hts⟩ (c_L_up l E (y >>> (1 &&& 31)) (55001) (by decide)) (va_cwS 2 hts gL_acts_L_up rfl rfl rfl (by decide +kernel) ⟨Nat.le_of_ble_eq_true rfl, Nat.le_of_ble_eq_true rfl⟩) ⟨zPr.blind, z_prer hK zP_nil⟩ rfl rfl hl.1 rfl (lv_room (Nat.le_of_ble_eq_true rfl)) dL_acts_175 ⟨Nat.le_of_ble_eq_true rfl, Nat.le_of_ble_eq_true rfl⟩) ?_
      refine W.eq (g2 := F0 Mi 178 ls [.int (a_up (y >>> (1 &&& 31)) (55001))]) rfl ?_
      refine lv_sipush (v := 5000) hx hb dL_acts_178 (by decide) ?_
      refine lv_isub hx hb dL_acts_181 ?_
      refine lv_goto (tgt := 203) hx hb dL_acts_182 (by decide) ?_
      refine lv_sipush (v := (-5000)) hx hb dL_acts_203 (by decide) ?_
      refine lv_ldc hx hb hown (hts (.constant RL 43 (50000)) (by decide +kernel)) dL_acts_206 ?_
      refine z_rdv (va_runS (As := [.int ((a_up (y >>> (1 &&& 31)) (55001)) - 5000), .int (-5000), .int (50000)]) (rest := []) ⟨hx, hb, hml, hown, hts⟩ (c_L_within l E ((a_up (y >>> (1 &&& 31)) (55001)) - 5000) (-5000) (50000)) (va_cwS 3 hts gL_acts_L_within rfl rfl rfl (by decide +kernel) ⟨Nat.le_of_ble_eq_true rfl, Nat.le_of_ble_eq_true rfl⟩) ⟨zPr.blind, z_prer hK zP_nil⟩ rfl rfl hl.1 rfl (lv_room (Nat.le_of_ble_eq_true rfl)) dL_acts_208 ⟨Nat.le_of_ble_eq_true rfl, Nat.le_of_ble_eq_true rfl⟩) ?_
      refine W.eq (g2 := F0 Mi 211 ls [.int (a_wi ((a_up (y >>> (1 &&& 31)) (55001)) - 5000) (-5000) (50000))]) rfl ?_
      refine z_topi (y := a_al g y) (by rw [a_al, if_pos c_167]) ?_
      refine lv_istore (lv' := [(5, .int (a_al g y)), (0, .ref (xa 0)), (1, .int x), (2, .int y)]) hx hb dL_acts_211 hl (by decide) rfl (fun ls hl => ?_)
      refine lv_aload_n hx hb dL_acts_213 rfl (lv_at hl 1 rfl) ?_
      have hPc : va_P E.1 vwCl ([(z_W E xa na ma mb ad tx ln nx ct f0 f1 g ga gb v).flatten] : List va_W).flatten H := zf_sub hP [0] rfl
      refine z_rdv (va_runV (As := []) (rest := []) ⟨hx, hb, hml, hown, hts⟩ (c_X9_altitude l E xa na ma mb ad tx ln nx ct f0 f1 g ga gb v hw) (cwV 0 hts gL_acts_X9_altitude rfl rfl rfl (by decide +kernel) ⟨Nat.le_of_ble_eq_true rfl, Nat.le_of_ble_eq_true rfl⟩) ⟨zPr.blind, va_recv hK.1 hPc (ci := 8) (q0 := 0) rfl rfl, z_prer hK hPc⟩ rfl rfl hl.1 rfl (lv_room (Nat.le_of_ble_eq_true rfl)) dL_acts_214 ⟨Nat.le_of_ble_eq_true rfl, Nat.le_of_ble_eq_true rfl⟩) ?_
      refine W.eq (g2 := F0 Mi 217 ls [.int (m_std (g 0) - m_std (g 1))]) rfl ?_
      refine lv_iload hx hb dL_acts_217 (lv_at hl 0 rfl) ?_
      refine lv_isub hx hb dL_acts_219 ?_
      refine lv_istore (lv' := [(6, .int ((m_std (g 0) - m_std (g 1)) - (a_al g y))), (5, .int (a_al g y)), (0, .ref (xa 0)), (1, .int x), (2, .int y)]) hx hb dL_acts_220 hl (by decide) rfl (fun ls hl => ?_)
      refine lv_aload_n hx hb dL_acts_222 rfl (lv_at hl 2 rfl) ?_
      have hPc : va_P E.1 vwCl ([(z_W E xa na ma mb ad tx ln nx ct f0 f1 g ga gb v).flatten] : List va_W).flatten H := zf_sub hP [0] rfl
      refine z_rdv (va_runV (As := []) (rest := []) ⟨hx, hb, hml, hown, hts⟩ (c_X9_drift l E xa na ma mb ad tx ln nx ct f0 f1 g ga gb v hw) (cwV 0 hts gL_acts_X9_drift rfl rfl rfl (by decide +kernel) ⟨Nat.le_of_ble_eq_true rfl, Nat.le_of_ble_eq_true rfl⟩) ⟨zPr.blind, va_recv hK.1 hPc (ci := 8) (q0 := 0) rfl rfl, z_prer hK hPc⟩ rfl rfl hl.1 rfl (lv_room (Nat.le_of_ble_eq_true rfl)) dL_acts_223 ⟨Nat.le_of_ble_eq_true rfl, Nat.le_of_ble_eq_true rfl⟩) ?_
      refine W.eq (g2 := F0 Mi 226 ls [.int (g 5)]) rfl ?_
      refine lv_istore (lv' := [(7, .int (g 5)), (6, .int ((m_std (g 0) - m_std (g 1)) - (a_al g y))), (5, .int (a_al g y)), (0, .ref (xa 0)), (1, .int x), (2, .int y)]) hx hb dL_acts_226 hl (by decide) rfl (fun ls hl => ?_)
      refine lv_aload_n hx hb dL_acts_228 rfl (lv_at hl 3 rfl) ?_
      have hPc : va_P E.1 vwCl ([(z_W E xa na ma mb ad tx ln nx ct f0 f1 g ga gb v).flatten] : List va_W).flatten H := zf_sub hP [0] rfl
      refine z_rdv (va_runV (As := []) (rest := []) ⟨hx, hb, hml, hown, hts⟩ (c_X9_calibrations l E xa na ma mb ad tx ln nx ct f0 f1 g ga gb v hw) (cwV 0 hts gL_acts_X9_calibrations rfl rfl rfl (by decide +kernel) ⟨Nat.le_of_ble_eq_true rfl, Nat.le_of_ble_eq_true rfl⟩) ⟨zPr.blind, va_recv hK.1 hPc (ci := 8) (q0 := 0) rfl rfl, z_prer hK hPc⟩ rfl rfl hl.1 rfl (lv_room (Nat.le_of_ble_eq_true rfl)) dL_acts_229 ⟨Nat.le_of_ble_eq_true rfl, Nat.le_of_ble_eq_true rfl⟩) ?_
      refine W.eq (g2 := F0 Mi 232 ls [.int (g 6)]) rfl ?_
      refine lv_istore (lv' := [(8, .int (g 6)), (7, .int (g 5)), (6, .int ((m_std (g 0) - m_std (g 1)) - (a_al g y))), (5, .int (a_al g y)), (0, .ref (xa 0)), (1, .int x), (2, .int y)]) hx hb dL_acts_232 hl (by decide) rfl (fun ls hl => ?_)
      refine lv_aload_n hx hb dL_acts_234 rfl (lv_at hl 4 rfl) ?_
      refine lv_iload hx hb dL_acts_235 (lv_at hl 3 rfl) ?_
      have ph_237 : -5000 ≤ (a_al g y) ∧ (a_al g y) ≤ 50000 := a_al_r g y
      have hPc : va_P E.1 vwCl ([(z_W E xa na ma mb ad tx ln nx ct f0 f1 g ga gb v).flatten] : List va_W).flatten H := zf_sub hP [0] rfl
      have hDc : va_D A ([(z_W E xa na ma mb ad tx ln nx ct f0 f1 g ga gb v).flatten] : List va_W).flatten := zf_subD hD [0] (by decide) rfl
      refine z_xmut (Sc := [(z_W E xa na ma mb ad tx ln nx ct f0 f1 g ga gb v).flatten]) (Sr := []) (W1 := [(z_W E xa na ma mb ad tx ln (nI ((m_n nx + 1) % 6)) (nI (if m_n ct < 6 then m_n ct + 1 else 6)) f0 f1 (m_calC g (a_al g y)) ga gb (va_up v (m_n nx) g)).flatten]) (vx_runV (As := [.int (a_al g y)]) (rest := []) ⟨hx, hb, hml, hown, hts⟩ (c_X9_calibrate l E sa hl0 xa na ma mb ad tx ln nx ct f0 f1 g ga gb v hw (a_al g y) H.size) (cwV 1 hts gL_acts_X9_calibrate rfl rfl rfl (by decide +kernel) ⟨Nat.le_of_ble_eq_true rfl, Nat.le_of_ble_eq_true rfl⟩) ⟨zPE.blind, va_recv hK.1 hPc (ci := 8) (q0 := 0) rfl rfl, z_preE hK hT hZ hS (zf_free hD hS hA [0] rfl) hPc hDc⟩ rfl rfl hl.1 rfl (lv_room (Nat.le_of_ble_eq_true rfl)) dL_acts_237 ⟨Nat.le_of_ble_eq_true rfl, Nat.le_of_ble_eq_true rfl⟩) hP hD hS hA [0] [] rfl rfl (by decide) (by decide) (fun Ex ce q9 H locs hps hP hD hS hce hcv hcl => ?_) (fun H locs _ hP hD hS => ?_)
      · exact (absurd ph_237 hps.2)
      have hP : va_P E.1 vwCl ([(z_W E xa na ma mb ad tx ln (nI ((m_n nx + 1) % 6)) (nI (if m_n ct < 6 then m_n ct + 1 else 6)) f0 f1 (m_calC g (a_al g y)) ga gb (va_up v (m_n nx) g)).flatten] : List va_W).flatten H := hP
      have hD : va_D A ([(z_W E xa na ma mb ad tx ln (nI ((m_n nx + 1) % 6)) (nI (if m_n ct < 6 then m_n ct + 1 else 6)) f0 f1 (m_calC g (a_al g y)) ga gb (va_up v (m_n nx) g)).flatten] : List va_W).flatten := hD
      refine W.widen (k := 1) (n := 6) (by decide) (by decide) ?_
      refine W.eq (g2 := F0 Mi 240 ls [.int (m_std (g 0) - m_std (g 1) - (a_al g y))]) rfl ?_
      have hw_7 : z_wk ln (nI ((m_n nx + 1) % 6)) (nI (if m_n ct < 6 then m_n ct + 1 else 6)) f0 f1 (m_calC g (a_al g y)) ga gb (va_up v (m_n nx) g) := z_wk_save hw (show z_ok (m_calC g (a_al g y)) from z_ok_cal hw.1)
      refine lv_iload hx hb dL_acts_240 (lv_at hl 2 rfl) ?_
      refine lv_icmp_ne (tgt := 283) hx hb dL_acts_242 (by decide) (fun h9 => absurd (rfl) h9) (fun _ => ?_)
      refine lv_aload_n hx hb dL_acts_245 rfl (lv_at hl 4 rfl) ?_
      have hPc : va_P E.1 vwCl ([(z_W E xa na ma mb ad tx ln (nI ((m_n nx + 1) % 6)) (nI (if m_n ct < 6 then m_n ct + 1 else 6)) f0 f1 (m_calC g (a_al g y)) ga gb (va_up v (m_n nx) g)).flatten] : List va_W).flatten H := zf_sub hP [0] rfl
      refine z_rdv (va_runV (As := []) (rest := []) ⟨hx, hb, hml, hown, hts⟩ (c_X9_drift l E xa na ma mb ad tx ln (nI ((m_n nx + 1) % 6)) (nI (if m_n ct < 6 then m_n ct + 1 else 6)) f0 f1 (m_calC g (a_al g y)) ga gb (va_up v (m_n nx) g) hw_7) (cwV 0 hts gL_acts_X9_drift rfl rfl rfl (by decide +kernel) ⟨Nat.le_of_ble_eq_true rfl, Nat.le_of_ble_eq_true rfl⟩) ⟨zPr.blind, va_recv hK.1 hPc (ci := 8) (q0 := 0) rfl rfl, z_prer hK hPc⟩ rfl rfl hl.1 rfl (lv_room (Nat.le_of_ble_eq_true rfl)) dL_acts_246 ⟨Nat.le_of_ble_eq_true rfl, Nat.le_of_ble_eq_true rfl⟩) ?_
      refine W.eq (g2 := F0 Mi 249 ls [.int ((m_calC g (a_al g y)) 5)]) rfl ?_
      refine lv_iload hx hb dL_acts_249 (lv_at hl 1 rfl) ?_
      refine lv_iload hx hb dL_acts_251 (lv_at hl 2 rfl) ?_
      refine lv_iadd hx hb dL_acts_253 ?_
      refine lv_icmp_ne (tgt := 283) hx hb dL_acts_254 (by decide) (fun h9 => absurd (rfl) h9) (fun _ => ?_)
      refine lv_aload_n hx hb dL_acts_257 rfl (lv_at hl 4 rfl) ?_
      have hPc : va_P E.1 vwCl ([(z_W E xa na ma mb ad tx ln (nI ((m_n nx + 1) % 6)) (nI (if m_n ct < 6 then m_n ct + 1 else 6)) f0 f1 (m_calC g (a_al g y)) ga gb (va_up v (m_n nx) g)).flatten] : List va_W).flatten H := zf_sub hP [0] rfl
      refine z_rdv (va_runV (As := []) (rest := []) ⟨hx, hb, hml, hown, hts⟩ (c_X9_calibrations l E xa na ma mb ad tx ln (nI ((m_n nx + 1) % 6)) (nI (if m_n ct < 6 then m_n ct + 1 else 6)) f0 f1 (m_calC g (a_al g y)) ga gb (va_up v (m_n nx) g) hw_7) (cwV 0 hts gL_acts_X9_calibrations rfl rfl rfl (by decide +kernel) ⟨Nat.le_of_ble_eq_true rfl, Nat.le_of_ble_eq_true rfl⟩) ⟨zPr.blind, va_recv hK.1 hPc (ci := 8) (q0 := 0) rfl rfl, z_prer hK hPc⟩ rfl rfl hl.1 rfl (lv_room (Nat.le_of_ble_eq_true rfl)) dL_acts_258 ⟨Nat.le_of_ble_eq_true rfl, Nat.le_of_ble_eq_true rfl⟩) ?_
      refine W.eq (g2 := F0 Mi 261 ls [.int ((m_calC g (a_al g y)) 6)]) rfl ?_
      refine lv_iload hx hb dL_acts_261 (lv_at hl 0 rfl) ?_
      refine lv_iconst (v := 1) hx hb dL_acts_263 (by decide) ?_
      refine lv_iadd hx hb dL_acts_264 ?_
      refine lv_icmp_ne (tgt := 283) hx hb dL_acts_265 (by decide) (fun h9 => absurd (rfl) h9) (fun _ => ?_)
      refine lv_aload_n hx hb dL_acts_268 rfl (lv_at hl 4 rfl) ?_
      have hPc : va_P E.1 vwCl ([(z_W E xa na ma mb ad tx ln (nI ((m_n nx + 1) % 6)) (nI (if m_n ct < 6 then m_n ct + 1 else 6)) f0 f1 (m_calC g (a_al g y)) ga gb (va_up v (m_n nx) g)).flatten] : List va_W).flatten H := zf_sub hP [0] rfl
      refine z_rdv (va_runV (As := []) (rest := []) ⟨hx, hb, hml, hown, hts⟩ (c_X9_base l E xa na ma mb ad tx ln (nI ((m_n nx + 1) % 6)) (nI (if m_n ct < 6 then m_n ct + 1 else 6)) f0 f1 (m_calC g (a_al g y)) ga gb (va_up v (m_n nx) g) hw_7) (cwV 0 hts gL_acts_X9_base rfl rfl rfl (by decide +kernel) ⟨Nat.le_of_ble_eq_true rfl, Nat.le_of_ble_eq_true rfl⟩) ⟨zPr.blind, va_recv hK.1 hPc (ci := 8) (q0 := 0) rfl rfl, z_prer hK hPc⟩ rfl rfl hl.1 rfl (lv_room (Nat.le_of_ble_eq_true rfl)) dL_acts_269 ⟨Nat.le_of_ble_eq_true rfl, Nat.le_of_ble_eq_true rfl⟩) ?_
      refine W.eq (g2 := F0 Mi 272 ls [.int ((m_calC g (a_al g y)) 9)]) rfl ?_
      refine lv_aload_n hx hb dL_acts_272 rfl (lv_at hl 4 rfl) ?_
      have hPc : va_P E.1 vwCl ([(z_W E xa na ma mb ad tx ln (nI ((m_n nx + 1) % 6)) (nI (if m_n ct < 6 then m_n ct + 1 else 6)) f0 f1 (m_calC g (a_al g y)) ga gb (va_up v (m_n nx) g)).flatten] : List va_W).flatten H := zf_sub hP [0] rfl
      refine z_rdv (va_runV (As := []) (rest := [.int ((m_calC g (a_al g y)) 9)]) ⟨hx, hb, hml, hown, hts⟩ (c_X9_altitude l E xa na ma mb ad tx ln (nI ((m_n nx + 1) % 6)) (nI (if m_n ct < 6 then m_n ct + 1 else 6)) f0 f1 (m_calC g (a_al g y)) ga gb (va_up v (m_n nx) g) hw_7) (cwV 0 hts gL_acts_X9_altitude rfl rfl rfl (by decide +kernel) ⟨Nat.le_of_ble_eq_true rfl, Nat.le_of_ble_eq_true rfl⟩) ⟨zPr.blind, va_recv hK.1 hPc (ci := 8) (q0 := 0) rfl rfl, z_prer hK hPc⟩ rfl rfl hl.1 rfl (lv_room (Nat.le_of_ble_eq_true rfl)) dL_acts_273 ⟨Nat.le_of_ble_eq_true rfl, Nat.le_of_ble_eq_true rfl⟩) ?_
      refine W.eq (g2 := F0 Mi 276 ls [.int (m_std ((m_calC g (a_al g y)) 0) - m_std ((m_calC g (a_al g y)) 1)), .int ((m_calC g (a_al g y)) 9)]) rfl ?_
      refine lv_icmp_ne (tgt := 283) hx hb dL_acts_276 (by decide) (fun h9 => absurd (cal_b) h9) (fun _ => ?_)
      refine lv_iconst (v := 1) hx hb dL_acts_279 (by decide) ?_
      refine lv_goto (tgt := 284) hx hb dL_acts_280 (by decide) ?_
      have hP : va_P E.1 vwCl ([(z_W E xa na ma mb ad tx ln (nI ((m_n nx + 1) % 6)) (nI (if m_n ct < 6 then m_n ct + 1 else 6)) f0 f1 (m_calC g (a_al g y)) ga gb (va_up v (m_n nx) g)).flatten] : List va_W).flatten H := zf_sub hP [0] rfl
      have hD : va_D A ([(z_W E xa na ma mb ad tx ln (nI ((m_n nx + 1) % 6)) (nI (if m_n ct < 6 then m_n ct + 1 else 6)) f0 f1 (m_calC g (a_al g y)) ga gb (va_up v (m_n nx) g)).flatten] : List va_W).flatten := zf_subD hD [0] (by decide) rfl
      refine W.widen (k := 7) (n := 40) (by decide) (by decide) ?_
      refine vx_ret ?_
      exact W.zret (v := 1) hx hb hr rfl (z_ende trivial hP hD hS rfl) hS.2.2 dL_acts_284 hlocks
  | 4, hj, _ =>
    refine z_topi hj ?_
    refine lv_tableIn (off := 158) (tgt := 164) hx hb dL_acts_6 (by decide) (by decide) rfl (by decide) ?_
    refine lv_iload_n hx hb dL_acts_164 rfl (lv_at hl 2 rfl) ?_
    refine lv_iconst (v := 1) hx hb dL_acts_165 (by decide) ?_
    refine lv_iand hx hb dL_acts_166 ?_
    refine lv_if_ne (tgt := 185) hx hb dL_acts_167 (by decide) (fun c_167 => ?_) (fun c_167 => ?_)
    · refine lv_aload_n hx hb dL_acts_185 rfl (lv_at hl 0 rfl) ?_
      have hPc : va_P E.1 vwCl ([(z_W E xa na ma mb ad tx ln nx ct f0 f1 g ga gb v).flatten] : List va_W).flatten H := zf_sub hP [0] rfl
      refine z_rdv (va_runV (As := []) (rest := []) ⟨hx, hb, hml, hown, hts⟩ (c_X9_altitude l E xa na ma mb ad tx ln nx ct f0 f1 g ga gb v hw) (cwV 0 hts gL_acts_X9_altitude rfl rfl rfl (by decide +kernel) ⟨Nat.le_of_ble_eq_true rfl, Nat.le_of_ble_eq_true rfl⟩) ⟨zPr.blind, va_recv hK.1 hPc (ci := 8) (q0 := 0) rfl rfl, z_prer hK hPc⟩ rfl rfl hl.1 rfl (lv_room (Nat.le_of_ble_eq_true rfl)) dL_acts_186 ⟨Nat.le_of_ble_eq_true rfl, Nat.le_of_ble_eq_true rfl⟩) ?_
      refine W.eq (g2 := F0 Mi 189 ls [.int (m_std (g 0) - m_std (g 1))]) rfl ?_
      refine lv_iload_n hx hb dL_acts_189 rfl (lv_at hl 2 rfl) ?_
      refine lv_iconst (v := 1) hx hb dL_acts_190 (by decide) ?_
      refine lv_ishr hx hb dL_acts_191 ?_
      refine lv_sipush (v := 601) hx hb dL_acts_192 (by decide) ?_
      refine z_rdv (va_runS (As := [.int (y >>> (1 &&& 31)), .int 601]) (rest := [.int (m_std (g 0) - m_std (g 1))]) ⟨hx, hb, hml, hown, hts⟩ (c_L_up l E (y >>> (1 &&& 31)) 601 (by decide)) (va_cwS 2 hts gL_acts_L_up rfl rfl rfl (by decide +kernel) ⟨Nat.le_of_ble_eq_true rfl, Nat.le_of_ble_eq_true rfl⟩) ⟨zPr.blind, z_prer hK zP_nil⟩ rfl rfl hl.1 rfl (lv_room (Nat.le_of_ble_eq_true rfl)) dL_acts_195 ⟨Nat.le_of_ble_eq_true rfl, Nat.le_of_ble_eq_true rfl⟩) ?_
      refine W.eq (g2 := F0 Mi 198 ls [.int (a_up (y >>> (1 &&& 31)) 601), .int (m_std (g 0) - m_std (g 1))]) rfl ?_
      refine lv_iadd hx hb dL_acts_198 ?_
      refine lv_sipush (v := 300) hx hb dL_acts_199 (by decide) ?_
      refine lv_isub hx hb dL_acts_202 ?_
      refine lv_sipush (v := (-5000)) hx hb dL_acts_203 (by decide) ?_
      refine lv_ldc hx hb hown (hts (.constant RL 43 (50000)) (by decide +kernel)) dL_acts_206 ?_
      refine z_rdv (va_runS (As := [.int (((m_std (g 0) - m_std (g 1)) + (a_up (y >>> (1 &&& 31)) 601)) - 300), .int (-5000), .int (50000)]) (rest := []) ⟨hx, hb, hml, hown, hts⟩ (c_L_within l E (((m_std (g 0) - m_std (g 1)) + (a_up (y >>> (1 &&& 31)) 601)) - 300) (-5000) (50000)) (va_cwS 3 hts gL_acts_L_within rfl rfl rfl (by decide +kernel) ⟨Nat.le_of_ble_eq_true rfl, Nat.le_of_ble_eq_true rfl⟩) ⟨zPr.blind, z_prer hK zP_nil⟩ rfl rfl hl.1 rfl (lv_room (Nat.le_of_ble_eq_true rfl)) dL_acts_208 ⟨Nat.le_of_ble_eq_true rfl, Nat.le_of_ble_eq_true rfl⟩) ?_
      refine W.eq (g2 := F0 Mi 211 ls [.int (a_wi (((m_std (g 0) - m_std (g 1)) + (a_up (y >>> (1 &&& 31)) 601)) - 300) (-5000) (50000))]) rfl ?_
      refine z_topi (y := a_al g y) (by rw [a_al, if_neg c_167]) ?_
      refine lv_istore (lv' := [(5, .int (a_al g y)), (0, .ref (xa 0)), (1, .int x), (2, .int y)]) hx hb dL_acts_211 hl (by decide) rfl (fun ls hl => ?_)
      refine lv_aload_n hx hb dL_acts_213 rfl (lv_at hl 1 rfl) ?_
      have hPc : va_P E.1 vwCl ([(z_W E xa na ma mb ad tx ln nx ct f0 f1 g ga gb v).flatten] : List va_W).flatten H := zf_sub hP [0] rfl
      refine z_rdv (va_runV (As := []) (rest := []) ⟨hx, hb, hml, hown, hts⟩ (c_X9_altitude l E xa na ma mb ad tx ln nx ct f0 f1 g ga gb v hw) (cwV 0 hts gL_acts_X9_altitude rfl rfl rfl (by decide +kernel) ⟨Nat.le_of_ble_eq_true rfl, Nat.le_of_ble_eq_true rfl⟩) ⟨zPr.blind, va_recv hK.1 hPc (ci := 8) (q0 := 0) rfl rfl, z_prer hK hPc⟩ rfl rfl hl.1 rfl (lv_room (Nat.le_of_ble_eq_true rfl)) dL_acts_214 ⟨Nat.le_of_ble_eq_true rfl, Nat.le_of_ble_eq_true rfl⟩) ?_
      refine W.eq (g2 := F0 Mi 217 ls [.int (m_std (g 0) - m_std (g 1))]) rfl ?_
      refine lv_iload hx hb dL_acts_217 (lv_at hl 0 rfl) ?_
      refine lv_isub hx hb dL_acts_219 ?_
      refine lv_istore (lv' := [(6, .int ((m_std (g 0) - m_std (g 1)) - (a_al g y))), (5, .int (a_al g y)), (0, .ref (xa 0)), (1, .int x), (2, .int y)]) hx hb dL_acts_220 hl (by decide) rfl (fun ls hl => ?_)
      refine lv_aload_n hx hb dL_acts_222 rfl (lv_at hl 2 rfl) ?_
      have hPc : va_P E.1 vwCl ([(z_W E xa na ma mb ad tx ln nx ct f0 f1 g ga gb v).flatten] : List va_W).flatten H := zf_sub hP [0] rfl
      refine z_rdv (va_runV (As := []) (rest := []) ⟨hx, hb, hml, hown, hts⟩ (c_X9_drift l E xa na ma mb ad tx ln nx ct f0 f1 g ga gb v hw) (cwV 0 hts gL_acts_X9_drift rfl rfl rfl (by decide +kernel) ⟨Nat.le_of_ble_eq_true rfl, Nat.le_of_ble_eq_true rfl⟩) ⟨zPr.blind, va_recv hK.1 hPc (ci := 8) (q0 := 0) rfl rfl, z_prer hK hPc⟩ rfl rfl hl.1 rfl (lv_room (Nat.le_of_ble_eq_true rfl)) dL_acts_223 ⟨Nat.le_of_ble_eq_true rfl, Nat.le_of_ble_eq_true rfl⟩) ?_
      refine W.eq (g2 := F0 Mi 226 ls [.int (g 5)]) rfl ?_
      refine lv_istore (lv' := [(7, .int (g 5)), (6, .int ((m_std (g 0) - m_std (g 1)) - (a_al g y))), (5, .int (a_al g y)), (0, .ref (xa 0)), (1, .int x), (2, .int y)]) hx hb dL_acts_226 hl (by decide) rfl (fun ls hl => ?_)
      refine lv_aload_n hx hb dL_acts_228 rfl (lv_at hl 3 rfl) ?_
      have hPc : va_P E.1 vwCl ([(z_W E xa na ma mb ad tx ln nx ct f0 f1 g ga gb v).flatten] : List va_W).flatten H := zf_sub hP [0] rfl
      refine z_rdv (va_runV (As := []) (rest := []) ⟨hx, hb, hml, hown, hts⟩ (c_X9_calibrations l E xa na ma mb ad tx ln nx ct f0 f1 g ga gb v hw) (cwV 0 hts gL_acts_X9_calibrations rfl rfl rfl (by decide +kernel) ⟨Nat.le_of_ble_eq_true rfl, Nat.le_of_ble_eq_true rfl⟩) ⟨zPr.blind, va_recv hK.1 hPc (ci := 8) (q0 := 0) rfl rfl, z_prer hK hPc⟩ rfl rfl hl.1 rfl (lv_room (Nat.le_of_ble_eq_true rfl)) dL_acts_229 ⟨Nat.le_of_ble_eq_true rfl, Nat.le_of_ble_eq_true rfl⟩) ?_
      refine W.eq (g2 := F0 Mi 232 ls [.int (g 6)]) rfl ?_
      refine lv_istore (lv' := [(8, .int (g 6)), (7, .int (g 5)), (6, .int ((m_std (g 0) - m_std (g 1)) - (a_al g y))), (5, .int (a_al g y)), (0, .ref (xa 0)), (1, .int x), (2, .int y)]) hx hb dL_acts_232 hl (by decide) rfl (fun ls hl => ?_)
      refine lv_aload_n hx hb dL_acts_234 rfl (lv_at hl 4 rfl) ?_
      refine lv_iload hx hb dL_acts_235 (lv_at hl 3 rfl) ?_
      have ph_237 : -5000 ≤ (a_al g y) ∧ (a_al g y) ≤ 50000 := a_al_r g y
      have hPc : va_P E.1 vwCl ([(z_W E xa na ma mb ad tx ln nx ct f0 f1 g ga gb v).flatten] : List va_W).flatten H := zf_sub hP [0] rfl
      have hDc : va_D A ([(z_W E xa na ma mb ad tx ln nx ct f0 f1 g ga gb v).flatten] : List va_W).flatten := zf_subD hD [0] (by decide) rfl
      refine z_xmut (Sc := [(z_W E xa na ma mb ad tx ln nx ct f0 f1 g ga gb v).flatten]) (Sr := []) (W1 := [(z_W E xa na ma mb ad tx ln (nI ((m_n nx + 1) % 6)) (nI (if m_n ct < 6 then m_n ct + 1 else 6)) f0 f1 (m_calC g (a_al g y)) ga gb (va_up v (m_n nx) g)).flatten]) (vx_runV (As := [.int (a_al g y)]) (rest := []) ⟨hx, hb, hml, hown, hts⟩ (c_X9_calibrate l E sa hl0 xa na ma mb ad tx ln nx ct f0 f1 g ga gb v hw (a_al g y) H.size) (cwV 1 hts gL_acts_X9_calibrate rfl rfl rfl (by decide +kernel) ⟨Nat.le_of_ble_eq_true rfl, Nat.le_of_ble_eq_true rfl⟩) ⟨zPE.blind, va_recv hK.1 hPc (ci := 8) (q0 := 0) rfl rfl, z_preE hK hT hZ hS (zf_free hD hS hA [0] rfl) hPc hDc⟩ rfl rfl hl.1 rfl (lv_room (Nat.le_of_ble_eq_true rfl)) dL_acts_237 ⟨Nat.le_of_ble_eq_true rfl, Nat.le_of_ble_eq_true rfl⟩) hP hD hS hA [0] [] rfl rfl (by decide) (by decide) (fun Ex ce q9 H locs hps hP hD hS hce hcv hcl => ?_) (fun H locs _ hP hD hS => ?_)
      · exact (absurd ph_237 hps.2)
      have hP : va_P E.1 vwCl ([(z_W E xa na ma mb ad tx ln (nI ((m_n nx + 1) % 6)) (nI (if m_n ct < 6 then m_n ct + 1 else 6)) f0 f1 (m_calC g (a_al g y)) ga gb (va_up v (m_n nx) g)).flatten] : List va_W).flatten H := hP
      have hD : va_D A ([(z_W E xa na ma mb ad tx ln (nI ((m_n nx + 1) % 6)) (nI (if m_n ct < 6 then m_n ct + 1 else 6)) f0 f1 (m_calC g (a_al g y)) ga gb (va_up v (m_n nx) g)).flatten] : List va_W).flatten := hD
      refine W.widen (k := 1) (n := 6) (by decide) (by decide) ?_
      refine W.eq (g2 := F0 Mi 240 ls [.int (m_std (g 0) - m_std (g 1) - (a_al g y))]) rfl ?_
      have hw_8 : z_wk ln (nI ((m_n nx + 1) % 6)) (nI (if m_n ct < 6 then m_n ct + 1 else 6)) f0 f1 (m_calC g (a_al g y)) ga gb (va_up v (m_n nx) g) := z_wk_save hw (show z_ok (m_calC g (a_al g y)) from z_ok_cal hw.1)
      refine lv_iload hx hb dL_acts_240 (lv_at hl 2 rfl) ?_
      refine lv_icmp_ne (tgt := 283) hx hb dL_acts_242 (by decide) (fun h9 => absurd (rfl) h9) (fun _ => ?_)
      refine lv_aload_n hx hb dL_acts_245 rfl (lv_at hl 4 rfl) ?_
      have hPc : va_P E.1 vwCl ([(z_W E xa na ma mb ad tx ln (nI ((m_n nx + 1) % 6)) (nI (if m_n ct < 6 then m_n ct + 1 else 6)) f0 f1 (m_calC g (a_al g y)) ga gb (va_up v (m_n nx) g)).flatten] : List va_W).flatten H := zf_sub hP [0] rfl
      refine z_rdv (va_runV (As := []) (rest := []) ⟨hx, hb, hml, hown, hts⟩ (c_X9_drift l E xa na ma mb ad tx ln (nI ((m_n nx + 1) % 6)) (nI (if m_n ct < 6 then m_n ct + 1 else 6)) f0 f1 (m_calC g (a_al g y)) ga gb (va_up v (m_n nx) g) hw_8) (cwV 0 hts gL_acts_X9_drift rfl rfl rfl (by decide +kernel) ⟨Nat.le_of_ble_eq_true rfl, Nat.le_of_ble_eq_true rfl⟩) ⟨zPr.blind, va_recv hK.1 hPc (ci := 8) (q0 := 0) rfl rfl, z_prer hK hPc⟩ rfl rfl hl.1 rfl (lv_room (Nat.le_of_ble_eq_true rfl)) dL_acts_246 ⟨Nat.le_of_ble_eq_true rfl, Nat.le_of_ble_eq_true rfl⟩) ?_
      refine W.eq (g2 := F0 Mi 249 ls [.int ((m_calC g (a_al g y)) 5)]) rfl ?_
      refine lv_iload hx hb dL_acts_249 (lv_at hl 1 rfl) ?_
      refine lv_iload hx hb dL_acts_251 (lv_at hl 2 rfl) ?_
      refine lv_iadd hx hb dL_acts_253 ?_
      refine lv_icmp_ne (tgt := 283) hx hb dL_acts_254 (by decide) (fun h9 => absurd (rfl) h9) (fun _ => ?_)
      refine lv_aload_n hx hb dL_acts_257 rfl (lv_at hl 4 rfl) ?_
      have hPc : va_P E.1 vwCl ([(z_W E xa na ma mb ad tx ln (nI ((m_n nx + 1) % 6)) (nI (if m_n ct < 6 then m_n ct + 1 else 6)) f0 f1 (m_calC g (a_al g y)) ga gb (va_up v (m_n nx) g)).flatten] : List va_W).flatten H := zf_sub hP [0] rfl
      refine z_rdv (va_runV (As := []) (rest := []) ⟨hx, hb, hml, hown, hts⟩ (c_X9_calibrations l E xa na ma mb ad tx ln (nI ((m_n nx + 1) % 6)) (nI (if m_n ct < 6 then m_n ct + 1 else 6)) f0 f1 (m_calC g (a_al g y)) ga gb (va_up v (m_n nx) g) hw_8) (cwV 0 hts gL_acts_X9_calibrations rfl rfl rfl (by decide +kernel) ⟨Nat.le_of_ble_eq_true rfl, Nat.le_of_ble_eq_true rfl⟩) ⟨zPr.blind, va_recv hK.1 hPc (ci := 8) (q0 := 0) rfl rfl, z_prer hK hPc⟩ rfl rfl hl.1 rfl (lv_room (Nat.le_of_ble_eq_true rfl)) dL_acts_258 ⟨Nat.le_of_ble_eq_true rfl, Nat.le_of_ble_eq_true rfl⟩) ?_
      refine W.eq (g2 := F0 Mi 261 ls [.int ((m_calC g (a_al g y)) 6)]) rfl ?_
      refine lv_iload hx hb dL_acts_261 (lv_at hl 0 rfl) ?_
      refine lv_iconst (v := 1) hx hb dL_acts_263 (by decide) ?_
      refine lv_iadd hx hb dL_acts_264 ?_
      refine lv_icmp_ne (tgt := 283) hx hb dL_acts_265 (by decide) (fun h9 => absurd (rfl) h9) (fun _ => ?_)
      refine lv_aload_n hx hb dL_acts_268 rfl (lv_at hl 4 rfl) ?_
      have hPc : va_P E.1 vwCl ([(z_W E xa na ma mb ad tx ln (nI ((m_n nx + 1) % 6)) (nI (if m_n ct < 6 then m_n ct + 1 else 6)) f0 f1 (m_calC g (a_al g y)) ga gb (va_up v (m_n nx) g)).flatten] : List va_W).flatten H := zf_sub hP [0] rfl
      refine z_rdv (va_runV (As := []) (rest := []) ⟨hx, hb, hml, hown, hts⟩ (c_X9_base l E xa na ma mb ad tx ln (nI ((m_n nx + 1) % 6)) (nI (if m_n ct < 6 then m_n ct + 1 else 6)) f0 f1 (m_calC g (a_al g y)) ga gb (va_up v (m_n nx) g) hw_8) (cwV 0 hts gL_acts_X9_base rfl rfl rfl (by decide +kernel) ⟨Nat.le_of_ble_eq_true rfl, Nat.le_of_ble_eq_true rfl⟩) ⟨zPr.blind, va_recv hK.1 hPc (ci := 8) (q0 := 0) rfl rfl, z_prer hK hPc⟩ rfl rfl hl.1 rfl (lv_room (Nat.le_of_ble_eq_true rfl)) dL_acts_269 ⟨Nat.le_of_ble_eq_true rfl, Nat.le_of_ble_eq_true rfl⟩) ?_
      refine W.eq (g2 := F0 Mi 272 ls [.int ((m_calC g (a_al g y)) 9)]) rfl ?_
      refine lv_aload_n hx hb dL_acts_272 rfl (lv_at hl 4 rfl) ?_
      have hPc : va_P E.1 vwCl ([(z_W E xa na ma mb ad tx ln (nI ((m_n nx + 1) % 6)) (nI (if m_n ct < 6 then m_n ct + 1 else 6)) f0 f1 (m_calC g (a_al g y)) ga gb (va_up v (m_n nx) g)).flatten] : List va_W).flatten H := zf_sub hP [0] rfl
      refine z_rdv (va_runV (As := []) (rest := [.int ((m_calC g (a_al g y)) 9)]) ⟨hx, hb, hml, hown, hts⟩ (c_X9_altitude l E xa na ma mb ad tx ln (nI ((m_n nx + 1) % 6)) (nI (if m_n ct < 6 then m_n ct + 1 else 6)) f0 f1 (m_calC g (a_al g y)) ga gb (va_up v (m_n nx) g) hw_8) (cwV 0 hts gL_acts_X9_altitude rfl rfl rfl (by decide +kernel) ⟨Nat.le_of_ble_eq_true rfl, Nat.le_of_ble_eq_true rfl⟩) ⟨zPr.blind, va_recv hK.1 hPc (ci := 8) (q0 := 0) rfl rfl, z_prer hK hPc⟩ rfl rfl hl.1 rfl (lv_room (Nat.le_of_ble_eq_true rfl)) dL_acts_273 ⟨Nat.le_of_ble_eq_true rfl, Nat.le_of_ble_eq_true rfl⟩) ?_
      refine W.eq (g2 := F0 Mi 276 ls [.int (m_std ((m_calC g (a_al g y)) 0) - m_std ((m_calC g (a_al g y)) 1)), .int ((m_calC g (a_al g y)) 9)]) rfl ?_
      refine lv_icmp_ne (tgt := 283) hx hb dL_acts_276 (by decide) (fun h9 => absurd (cal_b) h9) (fun _ => ?_)
      refine lv_iconst (v := 1) hx hb dL_acts_279 (by decide) ?_
      refine lv_goto (tgt := 284) hx hb dL_acts_280 (by decide) ?_
      have hP : va_P E.1 vwCl ([(z_W E xa na ma mb ad tx ln (nI ((m_n nx + 1) % 6)) (nI (if m_n ct < 6 then m_n ct + 1 else 6)) f0 f1 (m_calC g (a_al g y)) ga gb (va_up v (m_n nx) g)).flatten] : List va_W).flatten H := zf_sub hP [0] rfl
      have hD : va_D A ([(z_W E xa na ma mb ad tx ln (nI ((m_n nx + 1) % 6)) (nI (if m_n ct < 6 then m_n ct + 1 else 6)) f0 f1 (m_calC g (a_al g y)) ga gb (va_up v (m_n nx) g)).flatten] : List va_W).flatten := zf_subD hD [0] (by decide) rfl
      refine W.widen (k := 7) (n := 40) (by decide) (by decide) ?_
      refine vx_ret ?_
      exact W.zret (v := 1) hx hb hr rfl (z_ende trivial hP hD hS rfl) hS.2.2 dL_acts_284 hlocks
    · refine lv_iload_n hx hb dL_acts_170 rfl (lv_at hl 2 rfl) ?_
      refine lv_iconst (v := 1) hx hb dL_acts_171 (by decide) ?_
      refine lv_ishr hx hb dL_acts_172 ?_
      refine lv_ldc hx hb hown (hts (.constant RL 42 (55001)) (by decide +kernel)) dL_acts_173 ?_
      refine z_rdv (va_runS (As := [.int (y >>> (1 &&& 31)), .int (55001)]) (rest := []) ⟨hx, hb, hml, hown, hts⟩ (c_L_up l E (y >>> (1 &&& 31)) (55001) (by decide)) (va_cwS 2 hts gL_acts_L_up rfl rfl rfl (by decide +kernel) ⟨Nat.le_of_ble_eq_true rfl, Nat.le_of_ble_eq_true rfl⟩) ⟨zPr.blind, z_prer hK zP_nil⟩ rfl rfl hl.1 rfl (lv_room (Nat.le_of_ble_eq_true rfl)) dL_acts_175 ⟨Nat.le_of_ble_eq_true rfl, Nat.le_of_ble_eq_true rfl⟩) ?_
      refine W.eq (g2 := F0 Mi 178 ls [.int (a_up (y >>> (1 &&& 31)) (55001))]) rfl ?_
      refine lv_sipush (v := 5000) hx hb dL_acts_178 (by decide) ?_
      refine lv_isub hx hb dL_acts_181 ?_
      refine lv_goto (tgt := 203) hx hb dL_acts_182 (by decide) ?_
      refine lv_sipush (v := (-5000)) hx hb dL_acts_203 (by decide) ?_
      refine lv_ldc hx hb hown (hts (.constant RL 43 (50000)) (by decide +kernel)) dL_acts_206 ?_
      refine z_rdv (va_runS (As := [.int ((a_up (y >>> (1 &&& 31)) (55001)) - 5000), .int (-5000), .int (50000)]) (rest := []) ⟨hx, hb, hml, hown, hts⟩ (c_L_within l E ((a_up (y >>> (1 &&& 31)) (55001)) - 5000) (-5000) (50000)) (va_cwS 3 hts gL_acts_L_within rfl rfl rfl (by decide +kernel) ⟨Nat.le_of_ble_eq_true rfl, Nat.le_of_ble_eq_true rfl⟩) ⟨zPr.blind, z_prer hK zP_nil⟩ rfl rfl hl.1 rfl (lv_room (Nat.le_of_ble_eq_true rfl)) dL_acts_208 ⟨Nat.le_of_ble_eq_true rfl, Nat.le_of_ble_eq_true rfl⟩) ?_
      refine W.eq (g2 := F0 Mi 211 ls [.int (a_wi ((a_up (y >>> (1 &&& 31)) (55001)) - 5000) (-5000) (50000))]) rfl ?_
      refine z_topi (y := a_al g y) (by rw [a_al, if_pos c_167]) ?_
      refine lv_istore (lv' := [(5, .int (a_al g y)), (0, .ref (xa 0)), (1, .int x), (2, .int y)]) hx hb dL_acts_211 hl (by decide) rfl (fun ls hl => ?_)
      refine lv_aload_n hx hb dL_acts_213 rfl (lv_at hl 1 rfl) ?_
      have hPc : va_P E.1 vwCl ([(z_W E xa na ma mb ad tx ln nx ct f0 f1 g ga gb v).flatten] : List va_W).flatten H := zf_sub hP [0] rfl
      refine z_rdv (va_runV (As := []) (rest := []) ⟨hx, hb, hml, hown, hts⟩ (c_X9_altitude l E xa na ma mb ad tx ln nx ct f0 f1 g ga gb v hw) (cwV 0 hts gL_acts_X9_altitude rfl rfl rfl (by decide +kernel) ⟨Nat.le_of_ble_eq_true rfl, Nat.le_of_ble_eq_true rfl⟩) ⟨zPr.blind, va_recv hK.1 hPc (ci := 8) (q0 := 0) rfl rfl, z_prer hK hPc⟩ rfl rfl hl.1 rfl (lv_room (Nat.le_of_ble_eq_true rfl)) dL_acts_214 ⟨Nat.le_of_ble_eq_true rfl, Nat.le_of_ble_eq_true rfl⟩) ?_
      refine W.eq (g2 := F0 Mi 217 ls [.int (m_std (g 0) - m_std (g 1))]) rfl ?_
      refine lv_iload hx hb dL_acts_217 (lv_at hl 0 rfl) ?_
      refine lv_isub hx hb dL_acts_219 ?_
      refine lv_istore (lv' := [(6, .int ((m_std (g 0) - m_std (g 1)) - (a_al g y))), (5, .int (a_al g y)), (0, .ref (xa 0)), (1, .int x), (2, .int y)]) hx hb dL_acts_220 hl (by decide) rfl (fun ls hl => ?_)
      refine lv_aload_n hx hb dL_acts_222 rfl (lv_at hl 2 rfl) ?_
      have hPc : va_P E.1 vwCl ([(z_W E xa na ma mb ad tx ln nx ct f0 f1 g ga gb v).flatten] : List va_W).flatten H := zf_sub hP [0] rfl
      refine z_rdv (va_runV (As := []) (rest := []) ⟨hx, hb, hml, hown, hts⟩ (c_X9_drift l E xa na ma mb ad tx ln nx ct f0 f1 g ga gb v hw) (cwV 0 hts gL_acts_X9_drift rfl rfl rfl (by decide +kernel) ⟨Nat.le_of_ble_eq_true rfl, Nat.le_of_ble_eq_true rfl⟩) ⟨zPr.blind, va_recv hK.1 hPc (ci := 8) (q0 := 0) rfl rfl, z_prer hK hPc⟩ rfl rfl hl.1 rfl (lv_room (Nat.le_of_ble_eq_true rfl)) dL_acts_223 ⟨Nat.le_of_ble_eq_true rfl, Nat.le_of_ble_eq_true rfl⟩) ?_
      refine W.eq (g2 := F0 Mi 226 ls [.int (g 5)]) rfl ?_
      refine lv_istore (lv' := [(7, .int (g 5)), (6, .int ((m_std (g 0) - m_std (g 1)) - (a_al g y))), (5, .int (a_al g y)), (0, .ref (xa 0)), (1, .int x), (2, .int y)]) hx hb dL_acts_226 hl (by decide) rfl (fun ls hl => ?_)
      refine lv_aload_n hx hb dL_acts_228 rfl (lv_at hl 3 rfl) ?_
      have hPc : va_P E.1 vwCl ([(z_W E xa na ma mb ad tx ln nx ct f0 f1 g ga gb v).flatten] : List va_W).flatten H := zf_sub hP [0] rfl
      refine z_rdv (va_runV (As := []) (rest := []) ⟨hx, hb, hml, hown, hts⟩ (c_X9_calibrations l E xa na ma mb ad tx ln nx ct f0 f1 g ga gb v hw) (cwV 0 hts gL_acts_X9_calibrations rfl rfl rfl (by decide +kernel) ⟨Nat.le_of_ble_eq_true rfl, Nat.le_of_ble_eq_true rfl⟩) ⟨zPr.blind, va_recv hK.1 hPc (ci := 8) (q0 := 0) rfl rfl, z_prer hK hPc⟩ rfl rfl hl.1 rfl (lv_room (Nat.le_of_ble_eq_true rfl)) dL_acts_229 ⟨Nat.le_of_ble_eq_true rfl, Nat.le_of_ble_eq_true rfl⟩) ?_
      refine W.eq (g2 := F0 Mi 232 ls [.int (g 6)]) rfl ?_
      refine lv_istore (lv' := [(8, .int (g 6)), (7, .int (g 5)), (6, .int ((m_std (g 0) - m_std (g 1)) - (a_al g y))), (5, .int (a_al g y)), (0, .ref (xa 0)), (1, .int x), (2, .int y)]) hx hb dL_acts_232 hl (by decide) rfl (fun ls hl => ?_)
      refine lv_aload_n hx hb dL_acts_234 rfl (lv_at hl 4 rfl) ?_
      refine lv_iload hx hb dL_acts_235 (lv_at hl 3 rfl) ?_
      have ph_237 : -5000 ≤ (a_al g y) ∧ (a_al g y) ≤ 50000 := a_al_r g y
      have hPc : va_P E.1 vwCl ([(z_W E xa na ma mb ad tx ln nx ct f0 f1 g ga gb v).flatten] : List va_W).flatten H := zf_sub hP [0] rfl
      have hDc : va_D A ([(z_W E xa na ma mb ad tx ln nx ct f0 f1 g ga gb v).flatten] : List va_W).flatten := zf_subD hD [0] (by decide) rfl
      refine z_xmut (Sc := [(z_W E xa na ma mb ad tx ln nx ct f0 f1 g ga gb v).flatten]) (Sr := []) (W1 := [(z_W E xa na ma mb ad tx ln (nI ((m_n nx + 1) % 6)) (nI (if m_n ct < 6 then m_n ct + 1 else 6)) f0 f1 (m_calC g (a_al g y)) ga gb (va_up v (m_n nx) g)).flatten]) (vx_runV (As := [.int (a_al g y)]) (rest := []) ⟨hx, hb, hml, hown, hts⟩ (c_X9_calibrate l E sa hl0 xa na ma mb ad tx ln nx ct f0 f1 g ga gb v hw (a_al g y) H.size) (cwV 1 hts gL_acts_X9_calibrate rfl rfl rfl (by decide +kernel) ⟨Nat.le_of_ble_eq_true rfl, Nat.le_of_ble_eq_true rfl⟩) ⟨zPE.blind, va_recv hK.1 hPc (ci := 8) (q0 := 0) rfl rfl, z_preE hK hT hZ hS (zf_free hD hS hA [0] rfl) hPc hDc⟩ rfl rfl hl.1 rfl (lv_room (Nat.le_of_ble_eq_true rfl)) dL_acts_237 ⟨Nat.le_of_ble_eq_true rfl, Nat.le_of_ble_eq_true rfl⟩) hP hD hS hA [0] [] rfl rfl (by decide) (by decide) (fun Ex ce q9 H locs hps hP hD hS hce hcv hcl => ?_) (fun H locs _ hP hD hS => ?_)
      · exact (absurd ph_237 hps.2)
      have hP : va_P E.1 vwCl ([(z_W E xa na ma mb ad tx ln (nI ((m_n nx + 1) % 6)) (nI (if m_n ct < 6 then m_n ct + 1 else 6)) f0 f1 (m_calC g (a_al g y)) ga gb (va_up v (m_n nx) g)).flatten] : List va_W).flatten H := hP
      have hD : va_D A ([(z_W E xa na ma mb ad tx ln (nI ((m_n nx + 1) % 6)) (nI (if m_n ct < 6 then m_n ct + 1 else 6)) f0 f1 (m_calC g (a_al g y)) ga gb (va_up v (m_n nx) g)).flatten] : List va_W).flatten := hD
      refine W.widen (k := 1) (n := 6) (by decide) (by decide) ?_
      refine W.eq (g2 := F0 Mi 240 ls [.int (m_std (g 0) - m_std (g 1) - (a_al g y))]) rfl ?_
      have hw_9 : z_wk ln (nI ((m_n nx + 1) % 6)) (nI (if m_n ct < 6 then m_n ct + 1 else 6)) f0 f1 (m_calC g (a_al g y)) ga gb (va_up v (m_n nx) g) := z_wk_save hw (show z_ok (m_calC g (a_al g y)) from z_ok_cal hw.1)
      refine lv_iload hx hb dL_acts_240 (lv_at hl 2 rfl) ?_
      refine lv_icmp_ne (tgt := 283) hx hb dL_acts_242 (by decide) (fun h9 => absurd (rfl) h9) (fun _ => ?_)
      refine lv_aload_n hx hb dL_acts_245 rfl (lv_at hl 4 rfl) ?_
      have hPc : va_P E.1 vwCl ([(z_W E xa na ma mb ad tx ln (nI ((m_n nx + 1) % 6)) (nI (if m_n ct < 6 then m_n ct + 1 else 6)) f0 f1 (m_calC g (a_al g y)) ga gb (va_up v (m_n nx) g)).flatten] : List va_W).flatten H := zf_sub hP [0] rfl
      refine z_rdv (va_runV (As := []) (rest := []) ⟨hx, hb, hml, hown, hts⟩ (c_X9_drift l E xa na ma mb ad tx ln (nI ((m_n nx + 1) % 6)) (nI (if m_n ct < 6 then m_n ct + 1 else 6)) f0 f1 (m_calC g (a_al g y)) ga gb (va_up v (m_n nx) g) hw_9) (cwV 0 hts gL_acts_X9_drift rfl rfl rfl (by decide +kernel) ⟨Nat.le_of_ble_eq_true rfl, Nat.le_of_ble_eq_true rfl⟩) ⟨zPr.blind, va_recv hK.1 hPc (ci := 8) (q0 := 0) rfl rfl, z_prer hK hPc⟩ rfl rfl hl.1 rfl (lv_room (Nat.le_of_ble_eq_true rfl)) dL_acts_246 ⟨Nat.le_of_ble_eq_true rfl, Nat.le_of_ble_eq_true rfl⟩) ?_
      refine W.eq (g2 := F0 Mi 249 ls [.int ((m_calC g (a_al g y)) 5)]) rfl ?_
      refine lv_iload hx hb dL_acts_249 (lv_at hl 1 rfl) ?_
      refine lv_iload hx hb dL_acts_251 (lv_at hl 2 rfl) ?_
      refine lv_iadd hx hb dL_acts_253 ?_
      refine lv_icmp_ne (tgt := 283) hx hb dL_acts_254 (by decide) (fun h9 => absurd (rfl) h9) (fun _ => ?_)
      refine lv_aload_n hx hb dL_acts_257 rfl (lv_at hl 4 rfl) ?_
      have hPc : va_P E.1 vwCl ([(z_W E xa na ma mb ad tx ln (nI ((m_n nx + 1) % 6)) (nI (if m_n ct < 6 then m_n ct + 1 else 6)) f0 f1 (m_calC g (a_al g y)) ga gb (va_up v (m_n nx) g)).flatten] : List va_W).flatten H := zf_sub hP [0] rfl
      refine z_rdv (va_runV (As := []) (rest := []) ⟨hx, hb, hml, hown, hts⟩ (c_X9_calibrations l E xa na ma mb ad tx ln (nI ((m_n nx + 1) % 6)) (nI (if m_n ct < 6 then m_n ct + 1 else 6)) f0 f1 (m_calC g (a_al g y)) ga gb (va_up v (m_n nx) g) hw_9) (cwV 0 hts gL_acts_X9_calibrations rfl rfl rfl (by decide +kernel) ⟨Nat.le_of_ble_eq_true rfl, Nat.le_of_ble_eq_true rfl⟩) ⟨zPr.blind, va_recv hK.1 hPc (ci := 8) (q0 := 0) rfl rfl, z_prer hK hPc⟩ rfl rfl hl.1 rfl (lv_room (Nat.le_of_ble_eq_true rfl)) dL_acts_258 ⟨Nat.le_of_ble_eq_true rfl, Nat.le_of_ble_eq_true rfl⟩) ?_
      refine W.eq (g2 := F0 Mi 261 ls [.int ((m_calC g (a_al g y)) 6)]) rfl ?_
      refine lv_iload hx hb dL_acts_261 (lv_at hl 0 rfl) ?_
      refine lv_iconst (v := 1) hx hb dL_acts_263 (by decide) ?_
      refine lv_iadd hx hb dL_acts_264 ?_
      refine lv_icmp_ne (tgt := 283) hx hb dL_acts_265 (by decide) (fun h9 => absurd (rfl) h9) (fun _ => ?_)
      refine lv_aload_n hx hb dL_acts_268 rfl (lv_at hl 4 rfl) ?_
      have hPc : va_P E.1 vwCl ([(z_W E xa na ma mb ad tx ln (nI ((m_n nx + 1) % 6)) (nI (if m_n ct < 6 then m_n ct + 1 else 6)) f0 f1 (m_calC g (a_al g y)) ga gb (va_up v (m_n nx) g)).flatten] : List va_W).flatten H := zf_sub hP [0] rfl
      refine z_rdv (va_runV (As := []) (rest := []) ⟨hx, hb, hml, hown, hts⟩ (c_X9_base l E xa na ma mb ad tx ln (nI ((m_n nx + 1) % 6)) (nI (if m_n ct < 6 then m_n ct + 1 else 6)) f0 f1 (m_calC g (a_al g y)) ga gb (va_up v (m_n nx) g) hw_9) (cwV 0 hts gL_acts_X9_base rfl rfl rfl (by decide +kernel) ⟨Nat.le_of_ble_eq_true rfl, Nat.le_of_ble_eq_true rfl⟩) ⟨zPr.blind, va_recv hK.1 hPc (ci := 8) (q0 := 0) rfl rfl, z_prer hK hPc⟩ rfl rfl hl.1 rfl (lv_room (Nat.le_of_ble_eq_true rfl)) dL_acts_269 ⟨Nat.le_of_ble_eq_true rfl, Nat.le_of_ble_eq_true rfl⟩) ?_
      refine W.eq (g2 := F0 Mi 272 ls [.int ((m_calC g (a_al g y)) 9)]) rfl ?_
      refine lv_aload_n hx hb dL_acts_272 rfl (lv_at hl 4 rfl) ?_
      have hPc : va_P E.1 vwCl ([(z_W E xa na ma mb ad tx ln (nI ((m_n nx + 1) % 6)) (nI (if m_n ct < 6 then m_n ct + 1 else 6)) f0 f1 (m_calC g (a_al g y)) ga gb (va_up v (m_n nx) g)).flatten] : List va_W).flatten H := zf_sub hP [0] rfl
      refine z_rdv (va_runV (As := []) (rest := [.int ((m_calC g (a_al g y)) 9)]) ⟨hx, hb, hml, hown, hts⟩ (c_X9_altitude l E xa na ma mb ad tx ln (nI ((m_n nx + 1) % 6)) (nI (if m_n ct < 6 then m_n ct + 1 else 6)) f0 f1 (m_calC g (a_al g y)) ga gb (va_up v (m_n nx) g) hw_9) (cwV 0 hts gL_acts_X9_altitude rfl rfl rfl (by decide +kernel) ⟨Nat.le_of_ble_eq_true rfl, Nat.le_of_ble_eq_true rfl⟩) ⟨zPr.blind, va_recv hK.1 hPc (ci := 8) (q0 := 0) rfl rfl, z_prer hK hPc⟩ rfl rfl hl.1 rfl (lv_room (Nat.le_of_ble_eq_true rfl)) dL_acts_273 ⟨Nat.le_of_ble_eq_true rfl, Nat.le_of_ble_eq_true rfl⟩) ?_
      refine W.eq (g2 := F0 Mi 276 ls [.int (m_std ((m_calC g (a_al g y)) 0) - m_std ((m_calC g (a_al g y)) 1)), .int ((m_calC g (a_al g y)) 9)]) rfl ?_
      refine lv_icmp_ne (tgt := 283) hx hb dL_acts_276 (by decide) (fun h9 => absurd (cal_b) h9) (fun _ => ?_)
      refine lv_iconst (v := 1) hx hb dL_acts_279 (by decide) ?_
      refine lv_goto (tgt := 284) hx hb dL_acts_280 (by decide) ?_
      have hP : va_P E.1 vwCl ([(z_W E xa na ma mb ad tx ln (nI ((m_n nx + 1) % 6)) (nI (if m_n ct < 6 then m_n ct + 1 else 6)) f0 f1 (m_calC g (a_al g y)) ga gb (va_up v (m_n nx) g)).flatten] : List va_W).flatten H := zf_sub hP [0] rfl
      have hD : va_D A ([(z_W E xa na ma mb ad tx ln (nI ((m_n nx + 1) % 6)) (nI (if m_n ct < 6 then m_n ct + 1 else 6)) f0 f1 (m_calC g (a_al g y)) ga gb (va_up v (m_n nx) g)).flatten] : List va_W).flatten := zf_subD hD [0] (by decide) rfl
      refine W.widen (k := 7) (n := 40) (by decide) (by decide) ?_
      refine vx_ret ?_
      exact W.zret (v := 1) hx hb hr rfl (z_ende trivial hP hD hS rfl) hS.2.2 dL_acts_284 hlocks
  | 5, hj, _ =>
    refine z_topi hj ?_
    refine lv_tableIn (off := 279) (tgt := 285) hx hb dL_acts_6 (by decide) (by decide) rfl (by decide) ?_
    refine lv_aload_n hx hb dL_acts_285 rfl (lv_at hl 0 rfl) ?_
    refine lv_bipush (v := 10) hx hb dL_acts_286 (by decide) ?_
    refine lv_iload_n hx hb dL_acts_288 rfl (lv_at hl 2 rfl) ?_
    refine lv_sipush (v := 491) hx hb dL_acts_289 (by decide) ?_
    refine z_rdv (va_runS (As := [.int y, .int 491]) (rest := [.int 10, .ref (xa 0)]) ⟨hx, hb, hml, hown, hts⟩ (c_L_up l E y 491 (by decide)) (va_cwS 2 hts gL_acts_L_up rfl rfl rfl (by decide +kernel) ⟨Nat.le_of_ble_eq_true rfl, Nat.le_of_ble_eq_true rfl⟩) ⟨zPr.blind, z_prer hK zP_nil⟩ rfl rfl hl.1 rfl (lv_room (Nat.le_of_ble_eq_true rfl)) dL_acts_292 ⟨Nat.le_of_ble_eq_true rfl, Nat.le_of_ble_eq_true rfl⟩) ?_
    refine W.eq (g2 := F0 Mi 295 ls [.int (a_up y 491), .int 10, .ref (xa 0)]) rfl ?_
    refine lv_iadd hx hb dL_acts_295 ?_
    have ph_296 : 10 ≤ (10 + (a_up y 491)) ∧ (10 + (a_up y 491)) ≤ 500 := a_thr y
    have hPc : va_P E.1 vwCl ([(z_W E xa na ma mb ad tx ln nx ct f0 f1 g ga gb v).flatten] : List va_W).flatten H := zf_sub hP [0] rfl
    have hDc : va_D A ([(z_W E xa na ma mb ad tx ln nx ct f0 f1 g ga gb v).flatten] : List va_W).flatten := zf_subD hD [0] (by decide) rfl
    refine z_xmut (Sc := [(z_W E xa na ma mb ad tx ln nx ct f0 f1 g ga gb v).flatten]) (Sr := []) (W1 := [(z_W E xa na ma mb ad tx ln (nI ((m_n nx + 1) % 6)) (nI (if m_n ct < 6 then m_n ct + 1 else 6)) f0 f1 (upd g 10 (10 + (a_up y 491))) ga gb (va_up v (m_n nx) g)).flatten]) (vx_runV (As := [.int (10 + (a_up y 491))]) (rest := []) ⟨hx, hb, hml, hown, hts⟩ (c_X9_setThreshold l E sa hl0 xa na ma mb ad tx ln nx ct f0 f1 g ga gb v hw (10 + (a_up y 491)) H.size) (cwV 1 hts gL_acts_X9_setThreshold rfl rfl rfl (by decide +kernel) ⟨Nat.le_of_ble_eq_true rfl, Nat.le_of_ble_eq_true rfl⟩) ⟨zPE.blind, va_recv hK.1 hPc (ci := 8) (q0 := 0) rfl rfl, z_preE hK hT hZ hS (zf_free hD hS hA [0] rfl) hPc hDc⟩ rfl rfl hl.1 rfl (lv_room (Nat.le_of_ble_eq_true rfl)) dL_acts_296 ⟨Nat.le_of_ble_eq_true rfl, Nat.le_of_ble_eq_true rfl⟩) hP hD hS hA [0] [] rfl rfl (by decide) (by decide) (fun Ex ce q9 H locs hps hP hD hS hce hcv hcl => ?_) (fun H locs _ hP hD hS => ?_)
    · exact (absurd ph_296 hps.2)
    have hP : va_P E.1 vwCl ([(z_W E xa na ma mb ad tx ln (nI ((m_n nx + 1) % 6)) (nI (if m_n ct < 6 then m_n ct + 1 else 6)) f0 f1 (upd g 10 (10 + (a_up y 491))) ga gb (va_up v (m_n nx) g)).flatten] : List va_W).flatten H := hP
    have hD : va_D A ([(z_W E xa na ma mb ad tx ln (nI ((m_n nx + 1) % 6)) (nI (if m_n ct < 6 then m_n ct + 1 else 6)) f0 f1 (upd g 10 (10 + (a_up y 491))) ga gb (va_up v (m_n nx) g)).flatten] : List va_W).flatten := hD
    refine W.widen (k := 1) (n := 6) (by decide) (by decide) ?_
    refine W.eq (g2 := F0 Mi 299 ls [.int (g 10)]) rfl ?_
    have hw_10 : z_wk ln (nI ((m_n nx + 1) % 6)) (nI (if m_n ct < 6 then m_n ct + 1 else 6)) f0 f1 (upd g 10 (10 + (a_up y 491))) ga gb (va_up v (m_n nx) g) := z_wk_save hw (show z_ok (upd g 10 (10 + (a_up y 491))) from z_ok_thr hw.1)
    refine lv_bipush (v := 10) hx hb dL_acts_299 (by decide) ?_
    refine lv_icmp_lt (tgt := 308) hx hb dL_acts_301 (by decide) (fun h9 => absurd h9 (h_10 hg)) (fun _ => ?_)
    refine lv_iconst (v := 1) hx hb dL_acts_304 (by decide) ?_
    refine lv_goto (tgt := 309) hx hb dL_acts_305 (by decide) ?_
    have hP : va_P E.1 vwCl ([(z_W E xa na ma mb ad tx ln (nI ((m_n nx + 1) % 6)) (nI (if m_n ct < 6 then m_n ct + 1 else 6)) f0 f1 (upd g 10 (10 + (a_up y 491))) ga gb (va_up v (m_n nx) g)).flatten] : List va_W).flatten H := zf_sub hP [0] rfl
    have hD : va_D A ([(z_W E xa na ma mb ad tx ln (nI ((m_n nx + 1) % 6)) (nI (if m_n ct < 6 then m_n ct + 1 else 6)) f0 f1 (upd g 10 (10 + (a_up y 491))) ga gb (va_up v (m_n nx) g)).flatten] : List va_W).flatten := zf_subD hD [0] (by decide) rfl
    refine W.widen (k := 7) (n := 40) (by decide) (by decide) ?_
    refine vx_ret ?_
    exact W.zret (v := 1) hx hb hr rfl (z_ende trivial hP hD hS rfl) hS.2.2 dL_acts_309 hlocks
  | 6, hj, _ =>
    refine z_topi hj ?_
    refine lv_tableIn (off := 304) (tgt := 310) hx hb dL_acts_6 (by decide) (by decide) rfl (by decide) ?_
    refine lv_aload_n hx hb dL_acts_310 rfl (lv_at hl 0 rfl) ?_
    refine lv_bipush (v := 10) hx hb dL_acts_311 (by decide) ?_
    refine lv_iload_n hx hb dL_acts_313 rfl (lv_at hl 2 rfl) ?_
    refine lv_sipush (v := 191) hx hb dL_acts_314 (by decide) ?_
    refine z_rdv (va_runS (As := [.int y, .int 191]) (rest := [.int 10, .ref (xa 0)]) ⟨hx, hb, hml, hown, hts⟩ (c_L_up l E y 191 (by decide)) (va_cwS 2 hts gL_acts_L_up rfl rfl rfl (by decide +kernel) ⟨Nat.le_of_ble_eq_true rfl, Nat.le_of_ble_eq_true rfl⟩) ⟨zPr.blind, z_prer hK zP_nil⟩ rfl rfl hl.1 rfl (lv_room (Nat.le_of_ble_eq_true rfl)) dL_acts_317 ⟨Nat.le_of_ble_eq_true rfl, Nat.le_of_ble_eq_true rfl⟩) ?_
    refine W.eq (g2 := F0 Mi 320 ls [.int (a_up y 191), .int 10, .ref (xa 0)]) rfl ?_
    refine lv_iadd hx hb dL_acts_320 ?_
    have ph_321 : 10 ≤ (10 + (a_up y 191)) ∧ (10 + (a_up y 191)) ≤ 200 := a_lim y
    have hPc : va_P E.1 vwCl ([(z_W E xa na ma mb ad tx ln nx ct f0 f1 g ga gb v).flatten] : List va_W).flatten H := zf_sub hP [0] rfl
    have hDc : va_D A ([(z_W E xa na ma mb ad tx ln nx ct f0 f1 g ga gb v).flatten] : List va_W).flatten := zf_subD hD [0] (by decide) rfl
    refine z_xmut (Sc := [(z_W E xa na ma mb ad tx ln nx ct f0 f1 g ga gb v).flatten]) (Sr := []) (W1 := [(z_W E xa na ma mb ad tx ln (nI ((m_n nx + 1) % 6)) (nI (if m_n ct < 6 then m_n ct + 1 else 6)) f0 f1 (upd g 11 (10 + (a_up y 191))) ga gb (va_up v (m_n nx) g)).flatten]) (vx_runV (As := [.int (10 + (a_up y 191))]) (rest := []) ⟨hx, hb, hml, hown, hts⟩ (c_X9_setAlarm l E sa hl0 xa na ma mb ad tx ln nx ct f0 f1 g ga gb v hw (10 + (a_up y 191)) H.size) (cwV 1 hts gL_acts_X9_setAlarm rfl rfl rfl (by decide +kernel) ⟨Nat.le_of_ble_eq_true rfl, Nat.le_of_ble_eq_true rfl⟩) ⟨zPE.blind, va_recv hK.1 hPc (ci := 8) (q0 := 0) rfl rfl, z_preE hK hT hZ hS (zf_free hD hS hA [0] rfl) hPc hDc⟩ rfl rfl hl.1 rfl (lv_room (Nat.le_of_ble_eq_true rfl)) dL_acts_321 ⟨Nat.le_of_ble_eq_true rfl, Nat.le_of_ble_eq_true rfl⟩) hP hD hS hA [0] [] rfl rfl (by decide) (by decide) (fun Ex ce q9 H locs hps hP hD hS hce hcv hcl => ?_) (fun H locs _ hP hD hS => ?_)
    · exact (absurd ph_321 hps.2)
    have hP : va_P E.1 vwCl ([(z_W E xa na ma mb ad tx ln (nI ((m_n nx + 1) % 6)) (nI (if m_n ct < 6 then m_n ct + 1 else 6)) f0 f1 (upd g 11 (10 + (a_up y 191))) ga gb (va_up v (m_n nx) g)).flatten] : List va_W).flatten H := hP
    have hD : va_D A ([(z_W E xa na ma mb ad tx ln (nI ((m_n nx + 1) % 6)) (nI (if m_n ct < 6 then m_n ct + 1 else 6)) f0 f1 (upd g 11 (10 + (a_up y 191))) ga gb (va_up v (m_n nx) g)).flatten] : List va_W).flatten := hD
    refine W.widen (k := 1) (n := 6) (by decide) (by decide) ?_
    refine W.eq (g2 := F0 Mi 324 ls [.int (g 11)]) rfl ?_
    have hw_11 : z_wk ln (nI ((m_n nx + 1) % 6)) (nI (if m_n ct < 6 then m_n ct + 1 else 6)) f0 f1 (upd g 11 (10 + (a_up y 191))) ga gb (va_up v (m_n nx) g) := z_wk_save hw (show z_ok (upd g 11 (10 + (a_up y 191))) from z_ok_lim hw.1)
    refine lv_bipush (v := 10) hx hb dL_acts_324 (by decide) ?_
    refine lv_icmp_lt (tgt := 333) hx hb dL_acts_326 (by decide) (fun h9 => absurd h9 (h_11 hg)) (fun _ => ?_)
    refine lv_iconst (v := 1) hx hb dL_acts_329 (by decide) ?_
    refine lv_goto (tgt := 334) hx hb dL_acts_330 (by decide) ?_
    have hP : va_P E.1 vwCl ([(z_W E xa na ma mb ad tx ln (nI ((m_n nx + 1) % 6)) (nI (if m_n ct < 6 then m_n ct + 1 else 6)) f0 f1 (upd g 11 (10 + (a_up y 191))) ga gb (va_up v (m_n nx) g)).flatten] : List va_W).flatten H := zf_sub hP [0] rfl
    have hD : va_D A ([(z_W E xa na ma mb ad tx ln (nI ((m_n nx + 1) % 6)) (nI (if m_n ct < 6 then m_n ct + 1 else 6)) f0 f1 (upd g 11 (10 + (a_up y 191))) ga gb (va_up v (m_n nx) g)).flatten] : List va_W).flatten := zf_subD hD [0] (by decide) rfl
    refine W.widen (k := 7) (n := 40) (by decide) (by decide) ?_
    refine vx_ret ?_
    exact W.zret (v := 1) hx hb hr rfl (z_ende trivial hP hD hS rfl) hS.2.2 dL_acts_334 hlocks
  | 7, hj, _ =>
    refine z_topi hj ?_
    refine lv_tableIn (off := 329) (tgt := 335) hx hb dL_acts_6 (by decide) (by decide) rfl (by decide) ?_
    refine lv_aload_n hx hb dL_acts_335 rfl (lv_at hl 0 rfl) ?_
    have hPc : va_P E.1 vwCl ([(z_W E xa na ma mb ad tx ln nx ct f0 f1 g ga gb v).flatten] : List va_W).flatten H := zf_sub hP [0] rfl
    refine z_rdv (va_runV (As := []) (rest := []) ⟨hx, hb, hml, hown, hts⟩ (c_X9_marks l E xa na ma mb ad tx ln nx ct f0 f1 g ga gb v hw) (cwV 0 hts gL_acts_X9_marks rfl rfl rfl (by decide +kernel) ⟨Nat.le_of_ble_eq_true rfl, Nat.le_of_ble_eq_true rfl⟩) ⟨zPr.blind, va_recv hK.1 hPc (ci := 8) (q0 := 0) rfl rfl, z_prer hK hPc⟩ rfl rfl hl.1 rfl (lv_room (Nat.le_of_ble_eq_true rfl)) dL_acts_336 ⟨Nat.le_of_ble_eq_true rfl, Nat.le_of_ble_eq_true rfl⟩) ?_
    refine W.eq (g2 := F0 Mi 339 ls [.int (g 75)]) rfl ?_
    refine lv_istore (lv' := [(9, .int (g 75)), (0, .ref (xa 0)), (1, .int x), (2, .int y)]) hx hb dL_acts_339 hl (by decide) rfl (fun ls hl => ?_)
    refine lv_aload_n hx hb dL_acts_341 rfl (lv_at hl 1 rfl) ?_
    have hPc : va_P E.1 vwCl ([(z_W E xa na ma mb ad tx ln nx ct f0 f1 g ga gb v).flatten] : List va_W).flatten H := zf_sub hP [0] rfl
    have hDc : va_D A ([(z_W E xa na ma mb ad tx ln nx ct f0 f1 g ga gb v).flatten] : List va_W).flatten := zf_subD hD [0] (by decide) rfl
    refine z_mut (Sc := [(z_W E xa na ma mb ad tx ln nx ct f0 f1 g ga gb v).flatten]) (Sr := []) (W1 := [(z_W E xa na ma mb ad tx ln (nI ((m_n nx + 1) % 6)) (nI (if m_n ct < 6 then m_n ct + 1 else 6)) f0 f1 (m_mkC g) ga gb (va_up v (m_n nx) g)).flatten]) (va_runV (As := []) (rest := []) ⟨hx, hb, hml, hown, hts⟩ (c_X9_setMark l E xa na ma mb ad tx ln nx ct f0 f1 g ga gb v hw H.size) (cwV 0 hts gL_acts_X9_setMark rfl rfl rfl (by decide +kernel) ⟨Nat.le_of_ble_eq_true rfl, Nat.le_of_ble_eq_true rfl⟩) ⟨zP.blind, va_recv hK.1 hPc (ci := 8) (q0 := 0) rfl rfl, z_pre hK hPc hDc⟩ rfl rfl hl.1 rfl (lv_room (Nat.le_of_ble_eq_true rfl)) dL_acts_342 ⟨Nat.le_of_ble_eq_true rfl, Nat.le_of_ble_eq_true rfl⟩) hP hD hS hA [0] [] rfl rfl (by decide) (by decide) (fun H locs hP hD hS => ?_)
    have hP : va_P E.1 vwCl ([(z_W E xa na ma mb ad tx ln (nI ((m_n nx + 1) % 6)) (nI (if m_n ct < 6 then m_n ct + 1 else 6)) f0 f1 (m_mkC g) ga gb (va_up v (m_n nx) g)).flatten] : List va_W).flatten H := hP
    have hD : va_D A ([(z_W E xa na ma mb ad tx ln (nI ((m_n nx + 1) % 6)) (nI (if m_n ct < 6 then m_n ct + 1 else 6)) f0 f1 (m_mkC g) ga gb (va_up v (m_n nx) g)).flatten] : List va_W).flatten := hD
    refine W.eq (g2 := F0 Mi 345 ls [.int (m_kn (g 75))]) rfl ?_
    have hw_12 : z_wk ln (nI ((m_n nx + 1) % 6)) (nI (if m_n ct < 6 then m_n ct + 1 else 6)) f0 f1 (m_mkC g) ga gb (va_up v (m_n nx) g) := z_wk_save hw (show z_ok (m_mkC g) from z_ok_mk hw.1)
    refine lv_iload hx hb dL_acts_345 (lv_at hl 0 rfl) ?_
    refine lv_bipush (v := 10) hx hb dL_acts_347 (by decide) ?_
    refine lv_icmp_ge (tgt := 359) hx hb dL_acts_349 (by decide) (fun c_349 => ?_) (fun c_349 => ?_)
    · refine lv_bipush (v := 10) hx hb dL_acts_359 (by decide) ?_
      refine lv_icmp_ne (tgt := 402) hx hb dL_acts_361 (by decide) (fun h9 => absurd (kn_ge c_349) h9) (fun _ => ?_)
      refine lv_aload_n hx hb dL_acts_364 rfl (lv_at hl 1 rfl) ?_
      refine lv_aload_n hx hb dL_acts_365 rfl (lv_at hl 1 rfl) ?_
      have hPc : va_P E.1 vwCl ([(z_W E xa na ma mb ad tx ln (nI ((m_n nx + 1) % 6)) (nI (if m_n ct < 6 then m_n ct + 1 else 6)) f0 f1 (m_mkC g) ga gb (va_up v (m_n nx) g)).flatten] : List va_W).flatten H := zf_sub hP [0] rfl
      refine z_rdv (va_runV (As := []) (rest := [.ref (xa 0)]) ⟨hx, hb, hml, hown, hts⟩ (c_X9_marks l E xa na ma mb ad tx ln (nI ((m_n nx + 1) % 6)) (nI (if m_n ct < 6 then m_n ct + 1 else 6)) f0 f1 (m_mkC g) ga gb (va_up v (m_n nx) g) hw_12) (cwV 0 hts gL_acts_X9_marks rfl rfl rfl (by decide +kernel) ⟨Nat.le_of_ble_eq_true rfl, Nat.le_of_ble_eq_true rfl⟩) ⟨zPr.blind, va_recv hK.1 hPc (ci := 8) (q0 := 0) rfl rfl, z_prer hK hPc⟩ rfl rfl hl.1 rfl (lv_room (Nat.le_of_ble_eq_true rfl)) dL_acts_366 ⟨Nat.le_of_ble_eq_true rfl, Nat.le_of_ble_eq_true rfl⟩) ?_
      refine W.eq (g2 := F0 Mi 369 ls [.int ((m_mkC g) 75), .ref (xa 0)]) rfl ?_
      refine lv_iconst (v := 1) hx hb dL_acts_369 (by decide) ?_
      refine lv_isub hx hb dL_acts_370 ?_
      have ph_371 : 0 ≤ (((m_mkC g) 75) - 1) ∧ (((m_mkC g) 75) - 1) < (m_mkC g) 75 := mk_ix hg.1.1
      have hPc : va_P E.1 vwCl ([(z_W E xa na ma mb ad tx ln (nI ((m_n nx + 1) % 6)) (nI (if m_n ct < 6 then m_n ct + 1 else 6)) f0 f1 (m_mkC g) ga gb (va_up v (m_n nx) g)).flatten] : List va_W).flatten H := zf_sub hP [0] rfl
      have hDc : va_D A ([(z_W E xa na ma mb ad tx ln (nI ((m_n nx + 1) % 6)) (nI (if m_n ct < 6 then m_n ct + 1 else 6)) f0 f1 (m_mkC g) ga gb (va_up v (m_n nx) g)).flatten] : List va_W).flatten := zf_subD hD [0] (by decide) rfl
      refine z_xmut (Sc := [(z_W E xa na ma mb ad tx ln (nI ((m_n nx + 1) % 6)) (nI (if m_n ct < 6 then m_n ct + 1 else 6)) f0 f1 (m_mkC g) ga gb (va_up v (m_n nx) g)).flatten]) (Sr := []) (W1 := [(z_W E xa na ma mb ad tx ln (nI ((m_n nx + 1) % 6)) (nI (if m_n ct < 6 then m_n ct + 1 else 6)) f0 f1 (m_mkC g) ga gb (va_up v (m_n nx) g)).flatten]) (vx_runV (As := [.int (((m_mkC g) 75) - 1)]) (rest := []) ⟨hx, hb, hml, hown, hts⟩ (c_X9_markTime l E sa hl0 xa na ma mb ad tx ln (nI ((m_n nx + 1) % 6)) (nI (if m_n ct < 6 then m_n ct + 1 else 6)) f0 f1 (m_mkC g) ga gb (va_up v (m_n nx) g) hw_12 (((m_mkC g) 75) - 1) H.size) (cwV 1 hts gL_acts_X9_markTime rfl rfl rfl (by decide +kernel) ⟨Nat.le_of_ble_eq_true rfl, Nat.le_of_ble_eq_true rfl⟩) ⟨zPE.blind, va_recv hK.1 hPc (ci := 8) (q0 := 0) rfl rfl, z_preE hK hT hZ hS (zf_free hD hS hA [0] rfl) hPc hDc⟩ rfl rfl hl.1 rfl (lv_room (Nat.le_of_ble_eq_true rfl)) dL_acts_371 ⟨Nat.le_of_ble_eq_true rfl, Nat.le_of_ble_eq_true rfl⟩) hP hD hS hA [0] [] rfl rfl (by decide) (by decide) (fun Ex ce q9 H locs hps hP hD hS hce hcv hcl => ?_) (fun H locs _ hP hD hS => ?_)
      · exact (absurd ph_371 hps.2)
      have hP : va_P E.1 vwCl ([(z_W E xa na ma mb ad tx ln (nI ((m_n nx + 1) % 6)) (nI (if m_n ct < 6 then m_n ct + 1 else 6)) f0 f1 (m_mkC g) ga gb (va_up v (m_n nx) g)).flatten] : List va_W).flatten H := hP
      have hD : va_D A ([(z_W E xa na ma mb ad tx ln (nI ((m_n nx + 1) % 6)) (nI (if m_n ct < 6 then m_n ct + 1 else 6)) f0 f1 (m_mkC g) ga gb (va_up v (m_n nx) g)).flatten] : List va_W).flatten := hD
      refine W.widen (k := 1) (n := 6) (by decide) (by decide) ?_
      refine W.eq (g2 := F0 Mi 374 ls [.int (m_el 10 (z_tr 10 (fun k => (m_mkC g) (4 * k + 76))) (((m_mkC g) 75) - 1))]) rfl ?_
      refine lv_aload_n hx hb dL_acts_374 rfl (lv_at hl 1 rfl) ?_
      have hPc : va_P E.1 vwCl ([(z_W E xa na ma mb ad tx ln (nI ((m_n nx + 1) % 6)) (nI (if m_n ct < 6 then m_n ct + 1 else 6)) f0 f1 (m_mkC g) ga gb (va_up v (m_n nx) g)).flatten] : List va_W).flatten H := zf_sub hP [0] rfl
      refine z_rdv (va_runV (As := []) (rest := [.int (m_el 10 (z_tr 10 (fun k => (m_mkC g) (4 * k + 76))) (((m_mkC g) 75) - 1))]) ⟨hx, hb, hml, hown, hts⟩ (c_X9_minutes l E xa na ma mb ad tx ln (nI ((m_n nx + 1) % 6)) (nI (if m_n ct < 6 then m_n ct + 1 else 6)) f0 f1 (m_mkC g) ga gb (va_up v (m_n nx) g) hw_12) (cwV 0 hts gL_acts_X9_minutes rfl rfl rfl (by decide +kernel) ⟨Nat.le_of_ble_eq_true rfl, Nat.le_of_ble_eq_true rfl⟩) ⟨zPr.blind, va_recv hK.1 hPc (ci := 8) (q0 := 0) rfl rfl, z_prer hK hPc⟩ rfl rfl hl.1 rfl (lv_room (Nat.le_of_ble_eq_true rfl)) dL_acts_375 ⟨Nat.le_of_ble_eq_true rfl, Nat.le_of_ble_eq_true rfl⟩) ?_
      refine W.eq (g2 := F0 Mi 378 ls [.int ((m_mkC g) 4), .int (m_el 10 (z_tr 10 (fun k => (m_mkC g) (4 * k + 76))) (((m_mkC g) 75) - 1))]) rfl ?_
      refine lv_icmp_ne (tgt := 402) hx hb dL_acts_378 (by decide) (fun h9 => absurd (mk_t hg.1.1) h9) (fun _ => ?_)
      refine lv_aload_n hx hb dL_acts_381 rfl (lv_at hl 1 rfl) ?_
      refine lv_aload_n hx hb dL_acts_382 rfl (lv_at hl 1 rfl) ?_
      have hPc : va_P E.1 vwCl ([(z_W E xa na ma mb ad tx ln (nI ((m_n nx + 1) % 6)) (nI (if m_n ct < 6 then m_n ct + 1 else 6)) f0 f1 (m_mkC g) ga gb (va_up v (m_n nx) g)).flatten] : List va_W).flatten H := zf_sub hP [0] rfl
      refine z_rdv (va_runV (As := []) (rest := [.ref (xa 0)]) ⟨hx, hb, hml, hown, hts⟩ (c_X9_marks l E xa na ma mb ad tx ln (nI ((m_n nx + 1) % 6)) (nI (if m_n ct < 6 then m_n ct + 1 else 6)) f0 f1 (m_mkC g) ga gb (va_up v (m_n nx) g) hw_12) (cwV 0 hts gL_acts_X9_marks rfl rfl rfl (by decide +kernel) ⟨Nat.le_of_ble_eq_true rfl, Nat.le_of_ble_eq_true rfl⟩) ⟨zPr.blind, va_recv hK.1 hPc (ci := 8) (q0 := 0) rfl rfl, z_prer hK hPc⟩ rfl rfl hl.1 rfl (lv_room (Nat.le_of_ble_eq_true rfl)) dL_acts_383 ⟨Nat.le_of_ble_eq_true rfl, Nat.le_of_ble_eq_true rfl⟩) ?_
      refine W.eq (g2 := F0 Mi 386 ls [.int ((m_mkC g) 75), .ref (xa 0)]) rfl ?_
      refine lv_iconst (v := 1) hx hb dL_acts_386 (by decide) ?_
      refine lv_isub hx hb dL_acts_387 ?_
      have ph_388 : 0 ≤ (((m_mkC g) 75) - 1) ∧ (((m_mkC g) 75) - 1) < (m_mkC g) 75 := mk_ix hg.1.1
      have hPc : va_P E.1 vwCl ([(z_W E xa na ma mb ad tx ln (nI ((m_n nx + 1) % 6)) (nI (if m_n ct < 6 then m_n ct + 1 else 6)) f0 f1 (m_mkC g) ga gb (va_up v (m_n nx) g)).flatten] : List va_W).flatten H := zf_sub hP [0] rfl
      have hDc : va_D A ([(z_W E xa na ma mb ad tx ln (nI ((m_n nx + 1) % 6)) (nI (if m_n ct < 6 then m_n ct + 1 else 6)) f0 f1 (m_mkC g) ga gb (va_up v (m_n nx) g)).flatten] : List va_W).flatten := zf_subD hD [0] (by decide) rfl
      refine z_xmut (Sc := [(z_W E xa na ma mb ad tx ln (nI ((m_n nx + 1) % 6)) (nI (if m_n ct < 6 then m_n ct + 1 else 6)) f0 f1 (m_mkC g) ga gb (va_up v (m_n nx) g)).flatten]) (Sr := []) (W1 := [(z_W E xa na ma mb ad tx ln (nI ((m_n nx + 1) % 6)) (nI (if m_n ct < 6 then m_n ct + 1 else 6)) f0 f1 (m_mkC g) ga gb (va_up v (m_n nx) g)).flatten]) (vx_runV (As := [.int (((m_mkC g) 75) - 1)]) (rest := []) ⟨hx, hb, hml, hown, hts⟩ (c_X9_markAltitude l E sa hl0 xa na ma mb ad tx ln (nI ((m_n nx + 1) % 6)) (nI (if m_n ct < 6 then m_n ct + 1 else 6)) f0 f1 (m_mkC g) ga gb (va_up v (m_n nx) g) hw_12 (((m_mkC g) 75) - 1) H.size) (cwV 1 hts gL_acts_X9_markAltitude rfl rfl rfl (by decide +kernel) ⟨Nat.le_of_ble_eq_true rfl, Nat.le_of_ble_eq_true rfl⟩) ⟨zPE.blind, va_recv hK.1 hPc (ci := 8) (q0 := 0) rfl rfl, z_preE hK hT hZ hS (zf_free hD hS hA [0] rfl) hPc hDc⟩ rfl rfl hl.1 rfl (lv_room (Nat.le_of_ble_eq_true rfl)) dL_acts_388 ⟨Nat.le_of_ble_eq_true rfl, Nat.le_of_ble_eq_true rfl⟩) hP hD hS hA [0] [] rfl rfl (by decide) (by decide) (fun Ex ce q9 H locs hps hP hD hS hce hcv hcl => ?_) (fun H locs _ hP hD hS => ?_)
      · exact (absurd ph_388 hps.2)
      have hP : va_P E.1 vwCl ([(z_W E xa na ma mb ad tx ln (nI ((m_n nx + 1) % 6)) (nI (if m_n ct < 6 then m_n ct + 1 else 6)) f0 f1 (m_mkC g) ga gb (va_up v (m_n nx) g)).flatten] : List va_W).flatten H := hP
      have hD : va_D A ([(z_W E xa na ma mb ad tx ln (nI ((m_n nx + 1) % 6)) (nI (if m_n ct < 6 then m_n ct + 1 else 6)) f0 f1 (m_mkC g) ga gb (va_up v (m_n nx) g)).flatten] : List va_W).flatten := hD
      refine W.widen (k := 2) (n := 12) (by decide) (by decide) ?_
      refine W.eq (g2 := F0 Mi 391 ls [.int (m_el 10 (z_tr 10 (fun k => (m_mkC g) (4 * k + 77))) (((m_mkC g) 75) - 1))]) rfl ?_
      refine lv_aload_n hx hb dL_acts_391 rfl (lv_at hl 1 rfl) ?_
      have hPc : va_P E.1 vwCl ([(z_W E xa na ma mb ad tx ln (nI ((m_n nx + 1) % 6)) (nI (if m_n ct < 6 then m_n ct + 1 else 6)) f0 f1 (m_mkC g) ga gb (va_up v (m_n nx) g)).flatten] : List va_W).flatten H := zf_sub hP [0] rfl
      refine z_rdv (va_runV (As := []) (rest := [.int (m_el 10 (z_tr 10 (fun k => (m_mkC g) (4 * k + 77))) (((m_mkC g) 75) - 1))]) ⟨hx, hb, hml, hown, hts⟩ (c_X9_altitude l E xa na ma mb ad tx ln (nI ((m_n nx + 1) % 6)) (nI (if m_n ct < 6 then m_n ct + 1 else 6)) f0 f1 (m_mkC g) ga gb (va_up v (m_n nx) g) hw_12) (cwV 0 hts gL_acts_X9_altitude rfl rfl rfl (by decide +kernel) ⟨Nat.le_of_ble_eq_true rfl, Nat.le_of_ble_eq_true rfl⟩) ⟨zPr.blind, va_recv hK.1 hPc (ci := 8) (q0 := 0) rfl rfl, z_prer hK hPc⟩ rfl rfl hl.1 rfl (lv_room (Nat.le_of_ble_eq_true rfl)) dL_acts_392 ⟨Nat.le_of_ble_eq_true rfl, Nat.le_of_ble_eq_true rfl⟩) ?_
      refine W.eq (g2 := F0 Mi 395 ls [.int (m_std ((m_mkC g) 0) - m_std ((m_mkC g) 1)), .int (m_el 10 (z_tr 10 (fun k => (m_mkC g) (4 * k + 77))) (((m_mkC g) 75) - 1))]) rfl ?_
      refine lv_icmp_ne (tgt := 402) hx hb dL_acts_395 (by decide) (fun h9 => absurd (mk_h hg.1.1) h9) (fun _ => ?_)
      refine lv_iconst (v := 1) hx hb dL_acts_398 (by decide) ?_
      refine lv_goto (tgt := 403) hx hb dL_acts_399 (by decide) ?_
      have hP : va_P E.1 vwCl ([(z_W E xa na ma mb ad tx ln (nI ((m_n nx + 1) % 6)) (nI (if m_n ct < 6 then m_n ct + 1 else 6)) f0 f1 (m_mkC g) ga gb (va_up v (m_n nx) g)).flatten] : List va_W).flatten H := zf_sub hP [0] rfl
      have hD : va_D A ([(z_W E xa na ma mb ad tx ln (nI ((m_n nx + 1) % 6)) (nI (if m_n ct < 6 then m_n ct + 1 else 6)) f0 f1 (m_mkC g) ga gb (va_up v (m_n nx) g)).flatten] : List va_W).flatten := zf_subD hD [0] (by decide) rfl
      refine W.widen (k := 7) (n := 40) (by decide) (by decide) ?_
      refine vx_ret ?_
      exact W.zret (v := 1) hx hb hr rfl (z_ende trivial hP hD hS rfl) hS.2.2 dL_acts_403 hlocks
    · refine lv_iload hx hb dL_acts_352 (lv_at hl 0 rfl) ?_
      refine lv_iconst (v := 1) hx hb dL_acts_354 (by decide) ?_
      refine lv_iadd hx hb dL_acts_355 ?_
      refine lv_goto (tgt := 361) hx hb dL_acts_356 (by decide) ?_
      refine lv_icmp_ne (tgt := 402) hx hb dL_acts_361 (by decide) (fun h9 => absurd (kn_lt c_349) h9) (fun _ => ?_)
      refine lv_aload_n hx hb dL_acts_364 rfl (lv_at hl 1 rfl) ?_
      refine lv_aload_n hx hb dL_acts_365 rfl (lv_at hl 1 rfl) ?_
      have hPc : va_P E.1 vwCl ([(z_W E xa na ma mb ad tx ln (nI ((m_n nx + 1) % 6)) (nI (if m_n ct < 6 then m_n ct + 1 else 6)) f0 f1 (m_mkC g) ga gb (va_up v (m_n nx) g)).flatten] : List va_W).flatten H := zf_sub hP [0] rfl
      refine z_rdv (va_runV (As := []) (rest := [.ref (xa 0)]) ⟨hx, hb, hml, hown, hts⟩ (c_X9_marks l E xa na ma mb ad tx ln (nI ((m_n nx + 1) % 6)) (nI (if m_n ct < 6 then m_n ct + 1 else 6)) f0 f1 (m_mkC g) ga gb (va_up v (m_n nx) g) hw_12) (cwV 0 hts gL_acts_X9_marks rfl rfl rfl (by decide +kernel) ⟨Nat.le_of_ble_eq_true rfl, Nat.le_of_ble_eq_true rfl⟩) ⟨zPr.blind, va_recv hK.1 hPc (ci := 8) (q0 := 0) rfl rfl, z_prer hK hPc⟩ rfl rfl hl.1 rfl (lv_room (Nat.le_of_ble_eq_true rfl)) dL_acts_366 ⟨Nat.le_of_ble_eq_true rfl, Nat.le_of_ble_eq_true rfl⟩) ?_
      refine W.eq (g2 := F0 Mi 369 ls [.int ((m_mkC g) 75), .ref (xa 0)]) rfl ?_
      refine lv_iconst (v := 1) hx hb dL_acts_369 (by decide) ?_
      refine lv_isub hx hb dL_acts_370 ?_
      have ph_371 : 0 ≤ (((m_mkC g) 75) - 1) ∧ (((m_mkC g) 75) - 1) < (m_mkC g) 75 := mk_ix hg.1.1
      have hPc : va_P E.1 vwCl ([(z_W E xa na ma mb ad tx ln (nI ((m_n nx + 1) % 6)) (nI (if m_n ct < 6 then m_n ct + 1 else 6)) f0 f1 (m_mkC g) ga gb (va_up v (m_n nx) g)).flatten] : List va_W).flatten H := zf_sub hP [0] rfl
      have hDc : va_D A ([(z_W E xa na ma mb ad tx ln (nI ((m_n nx + 1) % 6)) (nI (if m_n ct < 6 then m_n ct + 1 else 6)) f0 f1 (m_mkC g) ga gb (va_up v (m_n nx) g)).flatten] : List va_W).flatten := zf_subD hD [0] (by decide) rfl
      refine z_xmut (Sc := [(z_W E xa na ma mb ad tx ln (nI ((m_n nx + 1) % 6)) (nI (if m_n ct < 6 then m_n ct + 1 else 6)) f0 f1 (m_mkC g) ga gb (va_up v (m_n nx) g)).flatten]) (Sr := []) (W1 := [(z_W E xa na ma mb ad tx ln (nI ((m_n nx + 1) % 6)) (nI (if m_n ct < 6 then m_n ct + 1 else 6)) f0 f1 (m_mkC g) ga gb (va_up v (m_n nx) g)).flatten]) (vx_runV (As := [.int (((m_mkC g) 75) - 1)]) (rest := []) ⟨hx, hb, hml, hown, hts⟩ (c_X9_markTime l E sa hl0 xa na ma mb ad tx ln (nI ((m_n nx + 1) % 6)) (nI (if m_n ct < 6 then m_n ct + 1 else 6)) f0 f1 (m_mkC g) ga gb (va_up v (m_n nx) g) hw_12 (((m_mkC g) 75) - 1) H.size) (cwV 1 hts gL_acts_X9_markTime rfl rfl rfl (by decide +kernel) ⟨Nat.le_of_ble_eq_true rfl, Nat.le_of_ble_eq_true rfl⟩) ⟨zPE.blind, va_recv hK.1 hPc (ci := 8) (q0 := 0) rfl rfl, z_preE hK hT hZ hS (zf_free hD hS hA [0] rfl) hPc hDc⟩ rfl rfl hl.1 rfl (lv_room (Nat.le_of_ble_eq_true rfl)) dL_acts_371 ⟨Nat.le_of_ble_eq_true rfl, Nat.le_of_ble_eq_true rfl⟩) hP hD hS hA [0] [] rfl rfl (by decide) (by decide) (fun Ex ce q9 H locs hps hP hD hS hce hcv hcl => ?_) (fun H locs _ hP hD hS => ?_)
      · exact (absurd ph_371 hps.2)
      have hP : va_P E.1 vwCl ([(z_W E xa na ma mb ad tx ln (nI ((m_n nx + 1) % 6)) (nI (if m_n ct < 6 then m_n ct + 1 else 6)) f0 f1 (m_mkC g) ga gb (va_up v (m_n nx) g)).flatten] : List va_W).flatten H := hP
      have hD : va_D A ([(z_W E xa na ma mb ad tx ln (nI ((m_n nx + 1) % 6)) (nI (if m_n ct < 6 then m_n ct + 1 else 6)) f0 f1 (m_mkC g) ga gb (va_up v (m_n nx) g)).flatten] : List va_W).flatten := hD
      refine W.widen (k := 1) (n := 6) (by decide) (by decide) ?_
      refine W.eq (g2 := F0 Mi 374 ls [.int (m_el 10 (z_tr 10 (fun k => (m_mkC g) (4 * k + 76))) (((m_mkC g) 75) - 1))]) rfl ?_
      refine lv_aload_n hx hb dL_acts_374 rfl (lv_at hl 1 rfl) ?_
      have hPc : va_P E.1 vwCl ([(z_W E xa na ma mb ad tx ln (nI ((m_n nx + 1) % 6)) (nI (if m_n ct < 6 then m_n ct + 1 else 6)) f0 f1 (m_mkC g) ga gb (va_up v (m_n nx) g)).flatten] : List va_W).flatten H := zf_sub hP [0] rfl
      refine z_rdv (va_runV (As := []) (rest := [.int (m_el 10 (z_tr 10 (fun k => (m_mkC g) (4 * k + 76))) (((m_mkC g) 75) - 1))]) ⟨hx, hb, hml, hown, hts⟩ (c_X9_minutes l E xa na ma mb ad tx ln (nI ((m_n nx + 1) % 6)) (nI (if m_n ct < 6 then m_n ct + 1 else 6)) f0 f1 (m_mkC g) ga gb (va_up v (m_n nx) g) hw_12) (cwV 0 hts gL_acts_X9_minutes rfl rfl rfl (by decide +kernel) ⟨Nat.le_of_ble_eq_true rfl, Nat.le_of_ble_eq_true rfl⟩) ⟨zPr.blind, va_recv hK.1 hPc (ci := 8) (q0 := 0) rfl rfl, z_prer hK hPc⟩ rfl rfl hl.1 rfl (lv_room (Nat.le_of_ble_eq_true rfl)) dL_acts_375 ⟨Nat.le_of_ble_eq_true rfl, Nat.le_of_ble_eq_true rfl⟩) ?_
      refine W.eq (g2 := F0 Mi 378 ls [.int ((m_mkC g) 4), .int (m_el 10 (z_tr 10 (fun k => (m_mkC g) (4 * k + 76))) (((m_mkC g) 75) - 1))]) rfl ?_
      refine lv_icmp_ne (tgt := 402) hx hb dL_acts_378 (by decide) (fun h9 => absurd (mk_t hg.1.1) h9) (fun _ => ?_)
      refine lv_aload_n hx hb dL_acts_381 rfl (lv_at hl 1 rfl) ?_
      refine lv_aload_n hx hb dL_acts_382 rfl (lv_at hl 1 rfl) ?_
      have hPc : va_P E.1 vwCl ([(z_W E xa na ma mb ad tx ln (nI ((m_n nx + 1) % 6)) (nI (if m_n ct < 6 then m_n ct + 1 else 6)) f0 f1 (m_mkC g) ga gb (va_up v (m_n nx) g)).flatten] : List va_W).flatten H := zf_sub hP [0] rfl
      refine z_rdv (va_runV (As := []) (rest := [.ref (xa 0)]) ⟨hx, hb, hml, hown, hts⟩ (c_X9_marks l E xa na ma mb ad tx ln (nI ((m_n nx + 1) % 6)) (nI (if m_n ct < 6 then m_n ct + 1 else 6)) f0 f1 (m_mkC g) ga gb (va_up v (m_n nx) g) hw_12) (cwV 0 hts gL_acts_X9_marks rfl rfl rfl (by decide +kernel) ⟨Nat.le_of_ble_eq_true rfl, Nat.le_of_ble_eq_true rfl⟩) ⟨zPr.blind, va_recv hK.1 hPc (ci := 8) (q0 := 0) rfl rfl, z_prer hK hPc⟩ rfl rfl hl.1 rfl (lv_room (Nat.le_of_ble_eq_true rfl)) dL_acts_383 ⟨Nat.le_of_ble_eq_true rfl, Nat.le_of_ble_eq_true rfl⟩) ?_
      refine W.eq (g2 := F0 Mi 386 ls [.int ((m_mkC g) 75), .ref (xa 0)]) rfl ?_
      refine lv_iconst (v := 1) hx hb dL_acts_386 (by decide) ?_
      refine lv_isub hx hb dL_acts_387 ?_
      have ph_388 : 0 ≤ (((m_mkC g) 75) - 1) ∧ (((m_mkC g) 75) - 1) < (m_mkC g) 75 := mk_ix hg.1.1
      have hPc : va_P E.1 vwCl ([(z_W E xa na ma mb ad tx ln (nI ((m_n nx + 1) % 6)) (nI (if m_n ct < 6 then m_n ct + 1 else 6)) f0 f1 (m_mkC g) ga gb (va_up v (m_n nx) g)).flatten] : List va_W).flatten H := zf_sub hP [0] rfl
      have hDc : va_D A ([(z_W E xa na ma mb ad tx ln (nI ((m_n nx + 1) % 6)) (nI (if m_n ct < 6 then m_n ct + 1 else 6)) f0 f1 (m_mkC g) ga gb (va_up v (m_n nx) g)).flatten] : List va_W).flatten := zf_subD hD [0] (by decide) rfl
      refine z_xmut (Sc := [(z_W E xa na ma mb ad tx ln (nI ((m_n nx + 1) % 6)) (nI (if m_n ct < 6 then m_n ct + 1 else 6)) f0 f1 (m_mkC g) ga gb (va_up v (m_n nx) g)).flatten]) (Sr := []) (W1 := [(z_W E xa na ma mb ad tx ln (nI ((m_n nx + 1) % 6)) (nI (if m_n ct < 6 then m_n ct + 1 else 6)) f0 f1 (m_mkC g) ga gb (va_up v (m_n nx) g)).flatten]) (vx_runV (As := [.int (((m_mkC g) 75) - 1)]) (rest := []) ⟨hx, hb, hml, hown, hts⟩ (c_X9_markAltitude l E sa hl0 xa na ma mb ad tx ln (nI ((m_n nx + 1) % 6)) (nI (if m_n ct < 6 then m_n ct + 1 else 6)) f0 f1 (m_mkC g) ga gb (va_up v (m_n nx) g) hw_12 (((m_mkC g) 75) - 1) H.size) (cwV 1 hts gL_acts_X9_markAltitude rfl rfl rfl (by decide +kernel) ⟨Nat.le_of_ble_eq_true rfl, Nat.le_of_ble_eq_true rfl⟩) ⟨zPE.blind, va_recv hK.1 hPc (ci := 8) (q0 := 0) rfl rfl, z_preE hK hT hZ hS (zf_free hD hS hA [0] rfl) hPc hDc⟩ rfl rfl hl.1 rfl (lv_room (Nat.le_of_ble_eq_true rfl)) dL_acts_388 ⟨Nat.le_of_ble_eq_true rfl, Nat.le_of_ble_eq_true rfl⟩) hP hD hS hA [0] [] rfl rfl (by decide) (by decide) (fun Ex ce q9 H locs hps hP hD hS hce hcv hcl => ?_) (fun H locs _ hP hD hS => ?_)
      · exact (absurd ph_388 hps.2)
      have hP : va_P E.1 vwCl ([(z_W E xa na ma mb ad tx ln (nI ((m_n nx + 1) % 6)) (nI (if m_n ct < 6 then m_n ct + 1 else 6)) f0 f1 (m_mkC g) ga gb (va_up v (m_n nx) g)).flatten] : List va_W).flatten H := hP
      have hD : va_D A ([(z_W E xa na ma mb ad tx ln (nI ((m_n nx + 1) % 6)) (nI (if m_n ct < 6 then m_n ct + 1 else 6)) f0 f1 (m_mkC g) ga gb (va_up v (m_n nx) g)).flatten] : List va_W).flatten := hD
      refine W.widen (k := 2) (n := 12) (by decide) (by decide) ?_
      refine W.eq (g2 := F0 Mi 391 ls [.int (m_el 10 (z_tr 10 (fun k => (m_mkC g) (4 * k + 77))) (((m_mkC g) 75) - 1))]) rfl ?_
      refine lv_aload_n hx hb dL_acts_391 rfl (lv_at hl 1 rfl) ?_
      have hPc : va_P E.1 vwCl ([(z_W E xa na ma mb ad tx ln (nI ((m_n nx + 1) % 6)) (nI (if m_n ct < 6 then m_n ct + 1 else 6)) f0 f1 (m_mkC g) ga gb (va_up v (m_n nx) g)).flatten] : List va_W).flatten H := zf_sub hP [0] rfl
      refine z_rdv (va_runV (As := []) (rest := [.int (m_el 10 (z_tr 10 (fun k => (m_mkC g) (4 * k + 77))) (((m_mkC g) 75) - 1))]) ⟨hx, hb, hml, hown, hts⟩ (c_X9_altitude l E xa na ma mb ad tx ln (nI ((m_n nx + 1) % 6)) (nI (if m_n ct < 6 then m_n ct + 1 else 6)) f0 f1 (m_mkC g) ga gb (va_up v (m_n nx) g) hw_12) (cwV 0 hts gL_acts_X9_altitude rfl rfl rfl (by decide +kernel) ⟨Nat.le_of_ble_eq_true rfl, Nat.le_of_ble_eq_true rfl⟩) ⟨zPr.blind, va_recv hK.1 hPc (ci := 8) (q0 := 0) rfl rfl, z_prer hK hPc⟩ rfl rfl hl.1 rfl (lv_room (Nat.le_of_ble_eq_true rfl)) dL_acts_392 ⟨Nat.le_of_ble_eq_true rfl, Nat.le_of_ble_eq_true rfl⟩) ?_
      refine W.eq (g2 := F0 Mi 395 ls [.int (m_std ((m_mkC g) 0) - m_std ((m_mkC g) 1)), .int (m_el 10 (z_tr 10 (fun k => (m_mkC g) (4 * k + 77))) (((m_mkC g) 75) - 1))]) rfl ?_
      refine lv_icmp_ne (tgt := 402) hx hb dL_acts_395 (by decide) (fun h9 => absurd (mk_h hg.1.1) h9) (fun _ => ?_)
      refine lv_iconst (v := 1) hx hb dL_acts_398 (by decide) ?_
      refine lv_goto (tgt := 403) hx hb dL_acts_399 (by decide) ?_
      have hP : va_P E.1 vwCl ([(z_W E xa na ma mb ad tx ln (nI ((m_n nx + 1) % 6)) (nI (if m_n ct < 6 then m_n ct + 1 else 6)) f0 f1 (m_mkC g) ga gb (va_up v (m_n nx) g)).flatten] : List va_W).flatten H := zf_sub hP [0] rfl
      have hD : va_D A ([(z_W E xa na ma mb ad tx ln (nI ((m_n nx + 1) % 6)) (nI (if m_n ct < 6 then m_n ct + 1 else 6)) f0 f1 (m_mkC g) ga gb (va_up v (m_n nx) g)).flatten] : List va_W).flatten := zf_subD hD [0] (by decide) rfl
      refine W.widen (k := 7) (n := 40) (by decide) (by decide) ?_
      refine vx_ret ?_
      exact W.zret (v := 1) hx hb hr rfl (z_ende trivial hP hD hS rfl) hS.2.2 dL_acts_403 hlocks
  | 8, hj, _ =>
    refine z_topi hj ?_
    refine lv_tableIn (off := 398) (tgt := 404) hx hb dL_acts_6 (by decide) (by decide) rfl (by decide) ?_
    refine lv_iload_n hx hb dL_acts_404 rfl (lv_at hl 2 rfl) ?_
    refine lv_iconst (v := 3) hx hb dL_acts_405 (by decide) ?_
    refine lv_iand hx hb dL_acts_406 ?_
    refine lv_if_ne (tgt := 430) hx hb dL_acts_407 (by decide) (fun c_407 => ?_) (fun c_407 => ?_)
    · refine lv_aload_n hx hb dL_acts_430 rfl (lv_at hl 0 rfl) ?_
      have hPc : va_P E.1 vwCl ([(z_W E xa na ma mb ad tx ln nx ct f0 f1 g ga gb v).flatten] : List va_W).flatten H := zf_sub hP [0] rfl
      have hDc : va_D A ([(z_W E xa na ma mb ad tx ln nx ct f0 f1 g ga gb v).flatten] : List va_W).flatten := zf_subD hD [0] (by decide) rfl
      refine z_mut (Sc := [(z_W E xa na ma mb ad tx ln nx ct f0 f1 g ga gb v).flatten]) (Sr := []) (W1 := [(z_W E xa na ma mb ad tx ln (nI ((m_n nx + 1) % 6)) (nI (if m_n ct < 6 then m_n ct + 1 else 6)) f0 f1 (m_mkC g) ga gb (va_up v (m_n nx) g)).flatten]) (va_runV (As := []) (rest := []) ⟨hx, hb, hml, hown, hts⟩ (c_X9_setMark l E xa na ma mb ad tx ln nx ct f0 f1 g ga gb v hw H.size) (cwV 0 hts gL_acts_X9_setMark rfl rfl rfl (by decide +kernel) ⟨Nat.le_of_ble_eq_true rfl, Nat.le_of_ble_eq_true rfl⟩) ⟨zP.blind, va_recv hK.1 hPc (ci := 8) (q0 := 0) rfl rfl, z_pre hK hPc hDc⟩ rfl rfl hl.1 rfl (lv_room (Nat.le_of_ble_eq_true rfl)) dL_acts_431 ⟨Nat.le_of_ble_eq_true rfl, Nat.le_of_ble_eq_true rfl⟩) hP hD hS hA [0] [] rfl rfl (by decide) (by decide) (fun H locs hP hD hS => ?_)
      have hP : va_P E.1 vwCl ([(z_W E xa na ma mb ad tx ln (nI ((m_n nx + 1) % 6)) (nI (if m_n ct < 6 then m_n ct + 1 else 6)) f0 f1 (m_mkC g) ga gb (va_up v (m_n nx) g)).flatten] : List va_W).flatten H := hP
      have hD : va_D A ([(z_W E xa na ma mb ad tx ln (nI ((m_n nx + 1) % 6)) (nI (if m_n ct < 6 then m_n ct + 1 else 6)) f0 f1 (m_mkC g) ga gb (va_up v (m_n nx) g)).flatten] : List va_W).flatten := hD
      refine W.eq (g2 := F0 Mi 434 ls [.int (m_kn (g 75))]) rfl ?_
      have hw_13 : z_wk ln (nI ((m_n nx + 1) % 6)) (nI (if m_n ct < 6 then m_n ct + 1 else 6)) f0 f1 (m_mkC g) ga gb (va_up v (m_n nx) g) := z_wk_save hw (show z_ok (m_mkC g) from z_ok_mk hw.1)
      refine lv_aload_n hx hb dL_acts_434 rfl (lv_at hl 0 rfl) ?_
      have hPc : va_P E.1 vwCl ([(z_W E xa na ma mb ad tx ln (nI ((m_n nx + 1) % 6)) (nI (if m_n ct < 6 then m_n ct + 1 else 6)) f0 f1 (m_mkC g) ga gb (va_up v (m_n nx) g)).flatten] : List va_W).flatten H := zf_sub hP [0] rfl
      refine z_rdv (va_runV (As := []) (rest := [.int (m_kn (g 75))]) ⟨hx, hb, hml, hown, hts⟩ (c_X9_marks l E xa na ma mb ad tx ln (nI ((m_n nx + 1) % 6)) (nI (if m_n ct < 6 then m_n ct + 1 else 6)) f0 f1 (m_mkC g) ga gb (va_up v (m_n nx) g) hw_13) (cwV 0 hts gL_acts_X9_marks rfl rfl rfl (by decide +kernel) ⟨Nat.le_of_ble_eq_true rfl, Nat.le_of_ble_eq_true rfl⟩) ⟨zPr.blind, va_recv hK.1 hPc (ci := 8) (q0 := 0) rfl rfl, z_prer hK hPc⟩ rfl rfl hl.1 rfl (lv_room (Nat.le_of_ble_eq_true rfl)) dL_acts_435 ⟨Nat.le_of_ble_eq_true rfl, Nat.le_of_ble_eq_true rfl⟩) ?_
      refine W.eq (g2 := F0 Mi 438 ls [.int ((m_mkC g) 75), .int (m_kn (g 75))]) rfl ?_
      refine lv_icmp_ne (tgt := 445) hx hb dL_acts_438 (by decide) (fun h9 => absurd (rfl) h9) (fun _ => ?_)
      refine lv_iconst (v := 1) hx hb dL_acts_441 (by decide) ?_
      refine lv_goto (tgt := 446) hx hb dL_acts_442 (by decide) ?_
      have hP : va_P E.1 vwCl ([(z_W E xa na ma mb ad tx ln (nI ((m_n nx + 1) % 6)) (nI (if m_n ct < 6 then m_n ct + 1 else 6)) f0 f1 (m_mkC g) ga gb (va_up v (m_n nx) g)).flatten] : List va_W).flatten H := zf_sub hP [0] rfl
      have hD : va_D A ([(z_W E xa na ma mb ad tx ln (nI ((m_n nx + 1) % 6)) (nI (if m_n ct < 6 then m_n ct + 1 else 6)) f0 f1 (m_mkC g) ga gb (va_up v (m_n nx) g)).flatten] : List va_W).flatten := zf_subD hD [0] (by decide) rfl
      refine W.widen (k := 7) (n := 40) (by decide) (by decide) ?_
      refine vx_ret ?_
      exact W.zret (v := 1) hx hb hr rfl (z_ende trivial hP hD hS (by rw [show a_gA g ga y 8 = m_mkC g from if_neg c_407])) hS.2.2 dL_acts_446 hlocks
    · refine lv_aload_n hx hb dL_acts_410 rfl (lv_at hl 0 rfl) ?_
      refine lv_iconst (v := 0) hx hb dL_acts_411 (by decide) ?_
      have ph_412 : ((0 : Int32) ≤ 0 ∧ (0 : Int32) ≤ 1) ∧ ¬ f0 = 0 := ⟨⟨by decide, by decide⟩, hf⟩
      have hPc : va_P E.1 vwCl ([(z_W E xa na ma mb ad tx ln nx ct f0 f1 g ga gb v).flatten] : List va_W).flatten H := zf_sub hP [0] rfl
      have hDc : va_D A ([(z_W E xa na ma mb ad tx ln nx ct f0 f1 g ga gb v).flatten] : List va_W).flatten := zf_subD hD [0] (by decide) rfl
      refine z_xmut (Sc := [(z_W E xa na ma mb ad tx ln nx ct f0 f1 g ga gb v).flatten]) (Sr := []) (W1 := [(z_W E xa na ma mb ad tx ln (nI ((m_n nx + 1) % 6)) (nI (if m_n ct < 6 then m_n ct + 1 else 6)) f0 f1 ga ga gb (va_up v (m_n nx) g)).flatten]) (vx_runV (As := [.int 0]) (rest := []) ⟨hx, hb, hml, hown, hts⟩ (c_X9_recall0 l E sa hl0 xa na ma mb ad tx ln nx ct f0 f1 g ga gb v hw H.size) (cwV 1 hts gL_acts_X9_recall rfl rfl rfl (by decide +kernel) ⟨Nat.le_of_ble_eq_true rfl, Nat.le_of_ble_eq_true rfl⟩) ⟨zPE.blind, va_recv hK.1 hPc (ci := 8) (q0 := 0) rfl rfl, z_preE hK hT hZ hS (zf_free hD hS hA [0] rfl) hPc hDc⟩ rfl rfl hl.1 rfl (lv_room (Nat.le_of_ble_eq_true rfl)) dL_acts_412 ⟨Nat.le_of_ble_eq_true rfl, Nat.le_of_ble_eq_true rfl⟩) hP hD hS hA [0] [] rfl rfl (by decide) (by decide) (fun Ex ce q9 H locs hps hP hD hS hce hcv hcl => ?_) (fun H locs _ hP hD hS => ?_)
      · exact (hps.elim (fun z => absurd ph_412.1 z.2) (fun z => absurd z.2.2 ph_412.2))
      have hP : va_P E.1 vwCl ([(z_W E xa na ma mb ad tx ln (nI ((m_n nx + 1) % 6)) (nI (if m_n ct < 6 then m_n ct + 1 else 6)) f0 f1 ga ga gb (va_up v (m_n nx) g)).flatten] : List va_W).flatten H := hP
      have hD : va_D A ([(z_W E xa na ma mb ad tx ln (nI ((m_n nx + 1) % 6)) (nI (if m_n ct < 6 then m_n ct + 1 else 6)) f0 f1 ga ga gb (va_up v (m_n nx) g)).flatten] : List va_W).flatten := hD
      refine W.widen (k := 2) (n := 12) (by decide) (by decide) ?_
      refine W.eq (g2 := F0 Mi 415 ls [.int (m_std (ga 0) - m_std (ga 1))]) rfl ?_
      have hw_14 : z_wk ln (nI ((m_n nx + 1) % 6)) (nI (if m_n ct < 6 then m_n ct + 1 else 6)) f0 f1 ga ga gb (va_up v (m_n nx) g) := z_wk_save hw (show z_ok ga from hga)
      refine lv_aload_n hx hb dL_acts_415 rfl (lv_at hl 0 rfl) ?_
      have hPc : va_P E.1 vwCl ([(z_W E xa na ma mb ad tx ln (nI ((m_n nx + 1) % 6)) (nI (if m_n ct < 6 then m_n ct + 1 else 6)) f0 f1 ga ga gb (va_up v (m_n nx) g)).flatten] : List va_W).flatten H := zf_sub hP [0] rfl
      refine z_rdv (va_runV (As := []) (rest := [.int (m_std (ga 0) - m_std (ga 1))]) ⟨hx, hb, hml, hown, hts⟩ (c_X9_altitude l E xa na ma mb ad tx ln (nI ((m_n nx + 1) % 6)) (nI (if m_n ct < 6 then m_n ct + 1 else 6)) f0 f1 ga ga gb (va_up v (m_n nx) g) hw_14) (cwV 0 hts gL_acts_X9_altitude rfl rfl rfl (by decide +kernel) ⟨Nat.le_of_ble_eq_true rfl, Nat.le_of_ble_eq_true rfl⟩) ⟨zPr.blind, va_recv hK.1 hPc (ci := 8) (q0 := 0) rfl rfl, z_prer hK hPc⟩ rfl rfl hl.1 rfl (lv_room (Nat.le_of_ble_eq_true rfl)) dL_acts_416 ⟨Nat.le_of_ble_eq_true rfl, Nat.le_of_ble_eq_true rfl⟩) ?_
      refine W.eq (g2 := F0 Mi 419 ls [.int (m_std (ga 0) - m_std (ga 1)), .int (m_std (ga 0) - m_std (ga 1))]) rfl ?_
      refine lv_icmp_ne (tgt := 426) hx hb dL_acts_419 (by decide) (fun h9 => absurd (rfl) h9) (fun _ => ?_)
      refine lv_iconst (v := 1) hx hb dL_acts_422 (by decide) ?_
      refine lv_goto (tgt := 446) hx hb dL_acts_423 (by decide) ?_
      have hP : va_P E.1 vwCl ([(z_W E xa na ma mb ad tx ln (nI ((m_n nx + 1) % 6)) (nI (if m_n ct < 6 then m_n ct + 1 else 6)) f0 f1 ga ga gb (va_up v (m_n nx) g)).flatten] : List va_W).flatten H := zf_sub hP [0] rfl
      have hD : va_D A ([(z_W E xa na ma mb ad tx ln (nI ((m_n nx + 1) % 6)) (nI (if m_n ct < 6 then m_n ct + 1 else 6)) f0 f1 ga ga gb (va_up v (m_n nx) g)).flatten] : List va_W).flatten := zf_subD hD [0] (by decide) rfl
      refine W.widen (k := 7) (n := 40) (by decide) (by decide) ?_
      refine vx_ret ?_
      exact W.zret (v := 1) hx hb hr rfl (z_ende trivial hP hD hS (by rw [show a_gA g ga y 8 = ga from if_pos c_407])) hS.2.2 dL_acts_446 hlocks
  | j + 9, hj, hj16 =>
    refine z_topi hj ?_
    refine lv_tableOut (tgt := 447) hx hb dL_acts_6 (Or.inr (by rw [nI_toInt (by omega)]; omega)) (by decide) ?_
    refine lv_iconst (v := 1) hx hb dL_acts_447 (by decide) ?_
    refine lv_iload_n hx hb dL_acts_448 rfl (lv_at hl 2 rfl) ?_
    refine lv_iload_n hx hb dL_acts_449 rfl (lv_at hl 2 rfl) ?_
    refine lv_bipush (v := 9) hx hb dL_acts_450 (by decide) ?_
    refine lv_ishr hx hb dL_acts_452 ?_
    refine lv_iconst (v := 3) hx hb dL_acts_453 (by decide) ?_
    refine lv_iand hx hb dL_acts_454 ?_
    refine lv_if_ne (tgt := 463) hx hb dL_acts_455 (by decide) (fun c_455 => ?_) (fun c_455 => ?_)
    · refine lv_bipush (v := 15) hx hb dL_acts_463 (by decide) ?_
      refine z_rdv (va_runS (As := [.int y, .int 15]) (rest := [.int 1]) ⟨hx, hb, hml, hown, hts⟩ (c_L_up l E y 15 (by decide)) (va_cwS 2 hts gL_acts_L_up rfl rfl rfl (by decide +kernel) ⟨Nat.le_of_ble_eq_true rfl, Nat.le_of_ble_eq_true rfl⟩) ⟨zPr.blind, z_prer hK zP_nil⟩ rfl rfl hl.1 rfl (lv_room (Nat.le_of_ble_eq_true rfl)) dL_acts_465 ⟨Nat.le_of_ble_eq_true rfl, Nat.le_of_ble_eq_true rfl⟩) ?_
      refine W.eq (g2 := F0 Mi 468 ls [.int (a_up y 15), .int 1]) rfl ?_
      refine lv_iadd hx hb dL_acts_468 ?_
      refine z_topi (y := a_mi y) (by rw [a_mi, if_neg c_455]) ?_
      refine lv_istore (lv' := [(10, .int (a_mi y)), (0, .ref (xa 0)), (1, .int x), (2, .int y)]) hx hb dL_acts_469 hl (by decide) rfl (fun ls hl => ?_)
      refine lv_iload_n hx hb dL_acts_471 rfl (lv_at hl 3 rfl) ?_
      refine lv_bipush (v := 10) hx hb dL_acts_472 (by decide) ?_
      refine lv_ishr hx hb dL_acts_474 ?_
      refine lv_iconst (v := 1) hx hb dL_acts_475 (by decide) ?_
      refine lv_iand hx hb dL_acts_476 ?_
      refine lv_if_ne (tgt := 497) hx hb dL_acts_477 (by decide) (fun c_477 => ?_) (fun c_477 => ?_)
      · refine lv_aload_n hx hb dL_acts_497 rfl (lv_at hl 1 rfl) ?_
        have hPc : va_P E.1 vwCl ([(z_W E xa na ma mb ad tx ln nx ct f0 f1 g ga gb v).flatten] : List va_W).flatten H := zf_sub hP [0] rfl
        refine z_rdv (va_runV (As := []) (rest := []) ⟨hx, hb, hml, hown, hts⟩ (c_X9_pressure l E xa na ma mb ad tx ln nx ct f0 f1 g ga gb v hw) (cwV 0 hts gL_acts_X9_pressure rfl rfl rfl (by decide +kernel) ⟨Nat.le_of_ble_eq_true rfl, Nat.le_of_ble_eq_true rfl⟩) ⟨zPr.blind, va_recv hK.1 hPc (ci := 8) (q0 := 0) rfl rfl, z_prer hK hPc⟩ rfl rfl hl.1 rfl (lv_room (Nat.le_of_ble_eq_true rfl)) dL_acts_498 ⟨Nat.le_of_ble_eq_true rfl, Nat.le_of_ble_eq_true rfl⟩) ?_
        refine W.eq (g2 := F0 Mi 501 ls [.int (g 0)]) rfl ?_
        refine lv_iload_n hx hb dL_acts_501 rfl (lv_at hl 3 rfl) ?_
        refine lv_bipush (v := 11) hx hb dL_acts_502 (by decide) ?_
        refine lv_ishr hx hb dL_acts_504 ?_
        refine lv_sipush (v := 301) hx hb dL_acts_505 (by decide) ?_
        refine z_rdv (va_runS (As := [.int (y >>> (11 &&& 31)), .int 301]) (rest := [.int (g 0)]) ⟨hx, hb, hml, hown, hts⟩ (c_L_up l E (y >>> (11 &&& 31)) 301 (by decide)) (va_cwS 2 hts gL_acts_L_up rfl rfl rfl (by decide +kernel) ⟨Nat.le_of_ble_eq_true rfl, Nat.le_of_ble_eq_true rfl⟩) ⟨zPr.blind, z_prer hK zP_nil⟩ rfl rfl hl.1 rfl (lv_room (Nat.le_of_ble_eq_true rfl)) dL_acts_508 ⟨Nat.le_of_ble_eq_true rfl, Nat.le_of_ble_eq_true rfl⟩) ?_
        refine W.eq (g2 := F0 Mi 511 ls [.int (a_up (y >>> (11 &&& 31)) 301), .int (g 0)]) rfl ?_
        refine lv_iadd hx hb dL_acts_511 ?_
        refine lv_sipush (v := 150) hx hb dL_acts_512 (by decide) ?_
        refine lv_isub hx hb dL_acts_515 ?_
        refine lv_sipush (v := 5000) hx hb dL_acts_516 (by decide) ?_
        refine lv_sipush (v := 11000) hx hb dL_acts_519 (by decide) ?_
        refine z_rdv (va_runS (As := [.int (((g 0) + (a_up (y >>> (11 &&& 31)) 301)) - 150), .int 5000, .int 11000]) (rest := []) ⟨hx, hb, hml, hown, hts⟩ (c_L_within l E (((g 0) + (a_up (y >>> (11 &&& 31)) 301)) - 150) 5000 11000) (va_cwS 3 hts gL_acts_L_within rfl rfl rfl (by decide +kernel) ⟨Nat.le_of_ble_eq_true rfl, Nat.le_of_ble_eq_true rfl⟩) ⟨zPr.blind, z_prer hK zP_nil⟩ rfl rfl hl.1 rfl (lv_room (Nat.le_of_ble_eq_true rfl)) dL_acts_522 ⟨Nat.le_of_ble_eq_true rfl, Nat.le_of_ble_eq_true rfl⟩) ?_
        refine W.eq (g2 := F0 Mi 525 ls [.int (a_wi (((g 0) + (a_up (y >>> (11 &&& 31)) 301)) - 150) 5000 11000)]) rfl ?_
        refine z_topi (y := a_pr g y) (by rw [a_pr, if_neg c_477]) ?_
        refine lv_istore (lv' := [(11, .int (a_pr g y)), (10, .int (a_mi y)), (0, .ref (xa 0)), (1, .int x), (2, .int y)]) hx hb dL_acts_525 hl (by decide) rfl (fun ls hl => ?_)
        refine lv_aload_n hx hb dL_acts_527 rfl (lv_at hl 2 rfl) ?_
        refine lv_iload hx hb dL_acts_528 (lv_at hl 1 rfl) ?_
        refine lv_iload hx hb dL_acts_530 (lv_at hl 0 rfl) ?_
        have hPc : va_P E.1 vwCl ([(z_W E xa na ma mb ad tx ln nx ct f0 f1 g ga gb v).flatten] : List va_W).flatten H := zf_sub hP [0] rfl
        have hDc : va_D A ([(z_W E xa na ma mb ad tx ln nx ct f0 f1 g ga gb v).flatten] : List va_W).flatten := zf_subD hD [0] (by decide) rfl
        refine z_xmut (Sc := [(z_W E xa na ma mb ad tx ln nx ct f0 f1 g ga gb v).flatten]) (Sr := []) (W1 := [(z_W E xa na ma mb ad tx ln (nI ((m_n nx + 1) % 6)) (nI (if m_n ct < 6 then m_n ct + 1 else 6)) f0 f1 (m_tripC g (a_mi y) (a_pr g y) (m_n (a_mi y))) ga gb (va_up v (m_n nx) g)).flatten]) (vx_runS (As := [.ref (xa 0), .int (a_mi y), .int (a_pr g y)]) (rest := []) ⟨hx, hb, hml, hown, hts⟩ (c_L_travels l E sa hl0 xa na ma mb ad tx ln nx ct f0 f1 g ga gb v hw hg hT5 (a_mi y) (a_pr g y) (a_tr g y) H.size) (va_cwS 3 hts gL_acts_L_travels rfl rfl rfl (by decide +kernel) ⟨Nat.le_of_ble_eq_true rfl, Nat.le_of_ble_eq_true rfl⟩) ⟨zPE.blind, z_preE hK hT hZ hS (zf_free hD hS hA [0] rfl) hPc hDc⟩ rfl rfl hl.1 rfl (lv_room (Nat.le_of_ble_eq_true rfl)) dL_acts_532 ⟨Nat.le_of_ble_eq_true rfl, Nat.le_of_ble_eq_true rfl⟩) hP hD hS hA [0] [] rfl rfl (by decide) (by decide) (fun Ex ce q9 H locs hps hP hD hS hce hcv hcl => hps.elim) (fun H locs _ hP hD hS => ?_)
        have hP : va_P E.1 vwCl ([(z_W E xa na ma mb ad tx ln (nI ((m_n nx + 1) % 6)) (nI (if m_n ct < 6 then m_n ct + 1 else 6)) f0 f1 (m_tripC g (a_mi y) (a_pr g y) (m_n (a_mi y))) ga gb (va_up v (m_n nx) g)).flatten] : List va_W).flatten H := hP
        have hD : va_D A ([(z_W E xa na ma mb ad tx ln (nI ((m_n nx + 1) % 6)) (nI (if m_n ct < 6 then m_n ct + 1 else 6)) f0 f1 (m_tripC g (a_mi y) (a_pr g y) (m_n (a_mi y))) ga gb (va_up v (m_n nx) g)).flatten] : List va_W).flatten := hD
        refine W.widen (k := 7) (n := 40) (by decide) (by decide) ?_
        refine W.eq (g2 := F0 Mi 535 ls [.int 1]) rfl ?_
        have hP : va_P E.1 vwCl ([(z_W E xa na ma mb ad tx ln (nI ((m_n nx + 1) % 6)) (nI (if m_n ct < 6 then m_n ct + 1 else 6)) f0 f1 (m_tripC g (a_mi y) (a_pr g y) (m_n (a_mi y))) ga gb (va_up v (m_n nx) g)).flatten] : List va_W).flatten H := zf_sub hP [0] rfl
        have hD : va_D A ([(z_W E xa na ma mb ad tx ln (nI ((m_n nx + 1) % 6)) (nI (if m_n ct < 6 then m_n ct + 1 else 6)) f0 f1 (m_tripC g (a_mi y) (a_pr g y) (m_n (a_mi y))) ga gb (va_up v (m_n nx) g)).flatten] : List va_W).flatten := zf_subD hD [0] (by decide) rfl
        refine vx_ret ?_
        exact W.zret (v := 1) hx hb hr rfl (z_ende trivial hP hD hS rfl) hS.2.2 dL_acts_535 hlocks
      · refine lv_sipush (v := 5000) hx hb dL_acts_480 (by decide) ?_
        refine lv_iload_n hx hb dL_acts_483 rfl (lv_at hl 3 rfl) ?_
        refine lv_bipush (v := 11) hx hb dL_acts_484 (by decide) ?_
        refine lv_ishr hx hb dL_acts_486 ?_
        refine lv_sipush (v := 6001) hx hb dL_acts_487 (by decide) ?_
        refine z_rdv (va_runS (As := [.int (y >>> (11 &&& 31)), .int 6001]) (rest := [.int 5000]) ⟨hx, hb, hml, hown, hts⟩ (c_L_up l E (y >>> (11 &&& 31)) 6001 (by decide)) (va_cwS 2 hts gL_acts_L_up rfl rfl rfl (by decide +kernel) ⟨Nat.le_of_ble_eq_true rfl, Nat.le_of_ble_eq_true rfl⟩) ⟨zPr.blind, z_prer hK zP_nil⟩ rfl rfl hl.1 rfl (lv_room (Nat.le_of_ble_eq_true rfl)) dL_acts_490 ⟨Nat.le_of_ble_eq_true rfl, Nat.le_of_ble_eq_true rfl⟩) ?_
        refine W.eq (g2 := F0 Mi 493 ls [.int (a_up (y >>> (11 &&& 31)) 6001), .int 5000]) rfl ?_
        refine lv_iadd hx hb dL_acts_493 ?_
        refine lv_goto (tgt := 516) hx hb dL_acts_494 (by decide) ?_
        refine lv_sipush (v := 5000) hx hb dL_acts_516 (by decide) ?_
        refine lv_sipush (v := 11000) hx hb dL_acts_519 (by decide) ?_
        refine z_rdv (va_runS (As := [.int ((5000 : Int32) + (a_up (y >>> (11 &&& 31)) 6001)), .int 5000, .int 11000]) (rest := []) ⟨hx, hb, hml, hown, hts⟩ (c_L_within l E ((5000 : Int32) + (a_up (y >>> (11 &&& 31)) 6001)) 5000 11000) (va_cwS 3 hts gL_acts_L_within rfl rfl rfl (by decide +kernel) ⟨Nat.le_of_ble_eq_true rfl, Nat.le_of_ble_eq_true rfl⟩) ⟨zPr.blind, z_prer hK zP_nil⟩ rfl rfl hl.1 rfl (lv_room (Nat.le_of_ble_eq_true rfl)) dL_acts_522 ⟨Nat.le_of_ble_eq_true rfl, Nat.le_of_ble_eq_true rfl⟩) ?_
        refine W.eq (g2 := F0 Mi 525 ls [.int (a_wi ((5000 : Int32) + (a_up (y >>> (11 &&& 31)) 6001)) 5000 11000)]) rfl ?_
        refine z_topi (y := a_pr g y) (by rw [a_pr, if_pos c_477]) ?_
        refine lv_istore (lv' := [(11, .int (a_pr g y)), (10, .int (a_mi y)), (0, .ref (xa 0)), (1, .int x), (2, .int y)]) hx hb dL_acts_525 hl (by decide) rfl (fun ls hl => ?_)
        refine lv_aload_n hx hb dL_acts_527 rfl (lv_at hl 2 rfl) ?_
        refine lv_iload hx hb dL_acts_528 (lv_at hl 1 rfl) ?_
        refine lv_iload hx hb dL_acts_530 (lv_at hl 0 rfl) ?_
        have hPc : va_P E.1 vwCl ([(z_W E xa na ma mb ad tx ln nx ct f0 f1 g ga gb v).flatten] : List va_W).flatten H := zf_sub hP [0] rfl
        have hDc : va_D A ([(z_W E xa na ma mb ad tx ln nx ct f0 f1 g ga gb v).flatten] : List va_W).flatten := zf_subD hD [0] (by decide) rfl
        refine z_xmut (Sc := [(z_W E xa na ma mb ad tx ln nx ct f0 f1 g ga gb v).flatten]) (Sr := []) (W1 := [(z_W E xa na ma mb ad tx ln (nI ((m_n nx + 1) % 6)) (nI (if m_n ct < 6 then m_n ct + 1 else 6)) f0 f1 (m_tripC g (a_mi y) (a_pr g y) (m_n (a_mi y))) ga gb (va_up v (m_n nx) g)).flatten]) (vx_runS (As := [.ref (xa 0), .int (a_mi y), .int (a_pr g y)]) (rest := []) ⟨hx, hb, hml, hown, hts⟩ (c_L_travels l E sa hl0 xa na ma mb ad tx ln nx ct f0 f1 g ga gb v hw hg hT5 (a_mi y) (a_pr g y) (a_tr g y) H.size) (va_cwS 3 hts gL_acts_L_travels rfl rfl rfl (by decide +kernel) ⟨Nat.le_of_ble_eq_true rfl, Nat.le_of_ble_eq_true rfl⟩) ⟨zPE.blind, z_preE hK hT hZ hS (zf_free hD hS hA [0] rfl) hPc hDc⟩ rfl rfl hl.1 rfl (lv_room (Nat.le_of_ble_eq_true rfl)) dL_acts_532 ⟨Nat.le_of_ble_eq_true rfl, Nat.le_of_ble_eq_true rfl⟩) hP hD hS hA [0] [] rfl rfl (by decide) (by decide) (fun Ex ce q9 H locs hps hP hD hS hce hcv hcl => hps.elim) (fun H locs _ hP hD hS => ?_)
        have hP : va_P E.1 vwCl ([(z_W E xa na ma mb ad tx ln (nI ((m_n nx + 1) % 6)) (nI (if m_n ct < 6 then m_n ct + 1 else 6)) f0 f1 (m_tripC g (a_mi y) (a_pr g y) (m_n (a_mi y))) ga gb (va_up v (m_n nx) g)).flatten] : List va_W).flatten H := hP
        have hD : va_D A ([(z_W E xa na ma mb ad tx ln (nI ((m_n nx + 1) % 6)) (nI (if m_n ct < 6 then m_n ct + 1 else 6)) f0 f1 (m_tripC g (a_mi y) (a_pr g y) (m_n (a_mi y))) ga gb (va_up v (m_n nx) g)).flatten] : List va_W).flatten := hD
        refine W.widen (k := 7) (n := 40) (by decide) (by decide) ?_
        refine W.eq (g2 := F0 Mi 535 ls [.int 1]) rfl ?_
        have hP : va_P E.1 vwCl ([(z_W E xa na ma mb ad tx ln (nI ((m_n nx + 1) % 6)) (nI (if m_n ct < 6 then m_n ct + 1 else 6)) f0 f1 (m_tripC g (a_mi y) (a_pr g y) (m_n (a_mi y))) ga gb (va_up v (m_n nx) g)).flatten] : List va_W).flatten H := zf_sub hP [0] rfl
        have hD : va_D A ([(z_W E xa na ma mb ad tx ln (nI ((m_n nx + 1) % 6)) (nI (if m_n ct < 6 then m_n ct + 1 else 6)) f0 f1 (m_tripC g (a_mi y) (a_pr g y) (m_n (a_mi y))) ga gb (va_up v (m_n nx) g)).flatten] : List va_W).flatten := zf_subD hD [0] (by decide) rfl
        refine vx_ret ?_
        exact W.zret (v := 1) hx hb hr rfl (z_ende trivial hP hD hS rfl) hS.2.2 dL_acts_535 hlocks
    · refine lv_bipush (v := 120) hx hb dL_acts_458 (by decide) ?_
      refine lv_goto (tgt := 465) hx hb dL_acts_460 (by decide) ?_
      refine z_rdv (va_runS (As := [.int y, .int 120]) (rest := [.int 1]) ⟨hx, hb, hml, hown, hts⟩ (c_L_up l E y 120 (by decide)) (va_cwS 2 hts gL_acts_L_up rfl rfl rfl (by decide +kernel) ⟨Nat.le_of_ble_eq_true rfl, Nat.le_of_ble_eq_true rfl⟩) ⟨zPr.blind, z_prer hK zP_nil⟩ rfl rfl hl.1 rfl (lv_room (Nat.le_of_ble_eq_true rfl)) dL_acts_465 ⟨Nat.le_of_ble_eq_true rfl, Nat.le_of_ble_eq_true rfl⟩) ?_
      refine W.eq (g2 := F0 Mi 468 ls [.int (a_up y 120), .int 1]) rfl ?_
      refine lv_iadd hx hb dL_acts_468 ?_
      refine z_topi (y := a_mi y) (by rw [a_mi, if_pos c_455]) ?_
      refine lv_istore (lv' := [(10, .int (a_mi y)), (0, .ref (xa 0)), (1, .int x), (2, .int y)]) hx hb dL_acts_469 hl (by decide) rfl (fun ls hl => ?_)
      refine lv_iload_n hx hb dL_acts_471 rfl (lv_at hl 3 rfl) ?_
      refine lv_bipush (v := 10) hx hb dL_acts_472 (by decide) ?_
      refine lv_ishr hx hb dL_acts_474 ?_
      refine lv_iconst (v := 1) hx hb dL_acts_475 (by decide) ?_
      refine lv_iand hx hb dL_acts_476 ?_
      refine lv_if_ne (tgt := 497) hx hb dL_acts_477 (by decide) (fun c_477 => ?_) (fun c_477 => ?_)
      · refine lv_aload_n hx hb dL_acts_497 rfl (lv_at hl 1 rfl) ?_
        have hPc : va_P E.1 vwCl ([(z_W E xa na ma mb ad tx ln nx ct f0 f1 g ga gb v).flatten] : List va_W).flatten H := zf_sub hP [0] rfl
        refine z_rdv (va_runV (As := []) (rest := []) ⟨hx, hb, hml, hown, hts⟩ (c_X9_pressure l E xa na ma mb ad tx ln nx ct f0 f1 g ga gb v hw) (cwV 0 hts gL_acts_X9_pressure rfl rfl rfl (by decide +kernel) ⟨Nat.le_of_ble_eq_true rfl, Nat.le_of_ble_eq_true rfl⟩) ⟨zPr.blind, va_recv hK.1 hPc (ci := 8) (q0 := 0) rfl rfl, z_prer hK hPc⟩ rfl rfl hl.1 rfl (lv_room (Nat.le_of_ble_eq_true rfl)) dL_acts_498 ⟨Nat.le_of_ble_eq_true rfl, Nat.le_of_ble_eq_true rfl⟩) ?_
        refine W.eq (g2 := F0 Mi 501 ls [.int (g 0)]) rfl ?_
        refine lv_iload_n hx hb dL_acts_501 rfl (lv_at hl 3 rfl) ?_
        refine lv_bipush (v := 11) hx hb dL_acts_502 (by decide) ?_
        refine lv_ishr hx hb dL_acts_504 ?_
        refine lv_sipush (v := 301) hx hb dL_acts_505 (by decide) ?_
        refine z_rdv (va_runS (As := [.int (y >>> (11 &&& 31)), .int 301]) (rest := [.int (g 0)]) ⟨hx, hb, hml, hown, hts⟩ (c_L_up l E (y >>> (11 &&& 31)) 301 (by decide)) (va_cwS 2 hts gL_acts_L_up rfl rfl rfl (by decide +kernel) ⟨Nat.le_of_ble_eq_true rfl, Nat.le_of_ble_eq_true rfl⟩) ⟨zPr.blind, z_prer hK zP_nil⟩ rfl rfl hl.1 rfl (lv_room (Nat.le_of_ble_eq_true rfl)) dL_acts_508 ⟨Nat.le_of_ble_eq_true rfl, Nat.le_of_ble_eq_true rfl⟩) ?_
        refine W.eq (g2 := F0 Mi 511 ls [.int (a_up (y >>> (11 &&& 31)) 301), .int (g 0)]) rfl ?_
        refine lv_iadd hx hb dL_acts_511 ?_
        refine lv_sipush (v := 150) hx hb dL_acts_512 (by decide) ?_
        refine lv_isub hx hb dL_acts_515 ?_
        refine lv_sipush (v := 5000) hx hb dL_acts_516 (by decide) ?_
        refine lv_sipush (v := 11000) hx hb dL_acts_519 (by decide) ?_
        refine z_rdv (va_runS (As := [.int (((g 0) + (a_up (y >>> (11 &&& 31)) 301)) - 150), .int 5000, .int 11000]) (rest := []) ⟨hx, hb, hml, hown, hts⟩ (c_L_within l E (((g 0) + (a_up (y >>> (11 &&& 31)) 301)) - 150) 5000 11000) (va_cwS 3 hts gL_acts_L_within rfl rfl rfl (by decide +kernel) ⟨Nat.le_of_ble_eq_true rfl, Nat.le_of_ble_eq_true rfl⟩) ⟨zPr.blind, z_prer hK zP_nil⟩ rfl rfl hl.1 rfl (lv_room (Nat.le_of_ble_eq_true rfl)) dL_acts_522 ⟨Nat.le_of_ble_eq_true rfl, Nat.le_of_ble_eq_true rfl⟩) ?_
        refine W.eq (g2 := F0 Mi 525 ls [.int (a_wi (((g 0) + (a_up (y >>> (11 &&& 31)) 301)) - 150) 5000 11000)]) rfl ?_
        refine z_topi (y := a_pr g y) (by rw [a_pr, if_neg c_477]) ?_
        refine lv_istore (lv' := [(11, .int (a_pr g y)), (10, .int (a_mi y)), (0, .ref (xa 0)), (1, .int x), (2, .int y)]) hx hb dL_acts_525 hl (by decide) rfl (fun ls hl => ?_)
        refine lv_aload_n hx hb dL_acts_527 rfl (lv_at hl 2 rfl) ?_
        refine lv_iload hx hb dL_acts_528 (lv_at hl 1 rfl) ?_
        refine lv_iload hx hb dL_acts_530 (lv_at hl 0 rfl) ?_
        have hPc : va_P E.1 vwCl ([(z_W E xa na ma mb ad tx ln nx ct f0 f1 g ga gb v).flatten] : List va_W).flatten H := zf_sub hP [0] rfl
        have hDc : va_D A ([(z_W E xa na ma mb ad tx ln nx ct f0 f1 g ga gb v).flatten] : List va_W).flatten := zf_subD hD [0] (by decide) rfl
        refine z_xmut (Sc := [(z_W E xa na ma mb ad tx ln nx ct f0 f1 g ga gb v).flatten]) (Sr := []) (W1 := [(z_W E xa na ma mb ad tx ln (nI ((m_n nx + 1) % 6)) (nI (if m_n ct < 6 then m_n ct + 1 else 6)) f0 f1 (m_tripC g (a_mi y) (a_pr g y) (m_n (a_mi y))) ga gb (va_up v (m_n nx) g)).flatten]) (vx_runS (As := [.ref (xa 0), .int (a_mi y), .int (a_pr g y)]) (rest := []) ⟨hx, hb, hml, hown, hts⟩ (c_L_travels l E sa hl0 xa na ma mb ad tx ln nx ct f0 f1 g ga gb v hw hg hT5 (a_mi y) (a_pr g y) (a_tr g y) H.size) (va_cwS 3 hts gL_acts_L_travels rfl rfl rfl (by decide +kernel) ⟨Nat.le_of_ble_eq_true rfl, Nat.le_of_ble_eq_true rfl⟩) ⟨zPE.blind, z_preE hK hT hZ hS (zf_free hD hS hA [0] rfl) hPc hDc⟩ rfl rfl hl.1 rfl (lv_room (Nat.le_of_ble_eq_true rfl)) dL_acts_532 ⟨Nat.le_of_ble_eq_true rfl, Nat.le_of_ble_eq_true rfl⟩) hP hD hS hA [0] [] rfl rfl (by decide) (by decide) (fun Ex ce q9 H locs hps hP hD hS hce hcv hcl => hps.elim) (fun H locs _ hP hD hS => ?_)
        have hP : va_P E.1 vwCl ([(z_W E xa na ma mb ad tx ln (nI ((m_n nx + 1) % 6)) (nI (if m_n ct < 6 then m_n ct + 1 else 6)) f0 f1 (m_tripC g (a_mi y) (a_pr g y) (m_n (a_mi y))) ga gb (va_up v (m_n nx) g)).flatten] : List va_W).flatten H := hP
        have hD : va_D A ([(z_W E xa na ma mb ad tx ln (nI ((m_n nx + 1) % 6)) (nI (if m_n ct < 6 then m_n ct + 1 else 6)) f0 f1 (m_tripC g (a_mi y) (a_pr g y) (m_n (a_mi y))) ga gb (va_up v (m_n nx) g)).flatten] : List va_W).flatten := hD
        refine W.widen (k := 7) (n := 40) (by decide) (by decide) ?_
        refine W.eq (g2 := F0 Mi 535 ls [.int 1]) rfl ?_
        have hP : va_P E.1 vwCl ([(z_W E xa na ma mb ad tx ln (nI ((m_n nx + 1) % 6)) (nI (if m_n ct < 6 then m_n ct + 1 else 6)) f0 f1 (m_tripC g (a_mi y) (a_pr g y) (m_n (a_mi y))) ga gb (va_up v (m_n nx) g)).flatten] : List va_W).flatten H := zf_sub hP [0] rfl
        have hD : va_D A ([(z_W E xa na ma mb ad tx ln (nI ((m_n nx + 1) % 6)) (nI (if m_n ct < 6 then m_n ct + 1 else 6)) f0 f1 (m_tripC g (a_mi y) (a_pr g y) (m_n (a_mi y))) ga gb (va_up v (m_n nx) g)).flatten] : List va_W).flatten := zf_subD hD [0] (by decide) rfl
        refine vx_ret ?_
        exact W.zret (v := 1) hx hb hr rfl (z_ende trivial hP hD hS rfl) hS.2.2 dL_acts_535 hlocks
      · refine lv_sipush (v := 5000) hx hb dL_acts_480 (by decide) ?_
        refine lv_iload_n hx hb dL_acts_483 rfl (lv_at hl 3 rfl) ?_
        refine lv_bipush (v := 11) hx hb dL_acts_484 (by decide) ?_
        refine lv_ishr hx hb dL_acts_486 ?_
        refine lv_sipush (v := 6001) hx hb dL_acts_487 (by decide) ?_
        refine z_rdv (va_runS (As := [.int (y >>> (11 &&& 31)), .int 6001]) (rest := [.int 5000]) ⟨hx, hb, hml, hown, hts⟩ (c_L_up l E (y >>> (11 &&& 31)) 6001 (by decide)) (va_cwS 2 hts gL_acts_L_up rfl rfl rfl (by decide +kernel) ⟨Nat.le_of_ble_eq_true rfl, Nat.le_of_ble_eq_true rfl⟩) ⟨zPr.blind, z_prer hK zP_nil⟩ rfl rfl hl.1 rfl (lv_room (Nat.le_of_ble_eq_true rfl)) dL_acts_490 ⟨Nat.le_of_ble_eq_true rfl, Nat.le_of_ble_eq_true rfl⟩) ?_
        refine W.eq (g2 := F0 Mi 493 ls [.int (a_up (y >>> (11 &&& 31)) 6001), .int 5000]) rfl ?_
        refine lv_iadd hx hb dL_acts_493 ?_
        refine lv_goto (tgt := 516) hx hb dL_acts_494 (by decide) ?_
        refine lv_sipush (v := 5000) hx hb dL_acts_516 (by decide) ?_
        refine lv_sipush (v := 11000) hx hb dL_acts_519 (by decide) ?_
        refine z_rdv (va_runS (As := [.int ((5000 : Int32) + (a_up (y >>> (11 &&& 31)) 6001)), .int 5000, .int 11000]) (rest := []) ⟨hx, hb, hml, hown, hts⟩ (c_L_within l E ((5000 : Int32) + (a_up (y >>> (11 &&& 31)) 6001)) 5000 11000) (va_cwS 3 hts gL_acts_L_within rfl rfl rfl (by decide +kernel) ⟨Nat.le_of_ble_eq_true rfl, Nat.le_of_ble_eq_true rfl⟩) ⟨zPr.blind, z_prer hK zP_nil⟩ rfl rfl hl.1 rfl (lv_room (Nat.le_of_ble_eq_true rfl)) dL_acts_522 ⟨Nat.le_of_ble_eq_true rfl, Nat.le_of_ble_eq_true rfl⟩) ?_
        refine W.eq (g2 := F0 Mi 525 ls [.int (a_wi ((5000 : Int32) + (a_up (y >>> (11 &&& 31)) 6001)) 5000 11000)]) rfl ?_
        refine z_topi (y := a_pr g y) (by rw [a_pr, if_pos c_477]) ?_
        refine lv_istore (lv' := [(11, .int (a_pr g y)), (10, .int (a_mi y)), (0, .ref (xa 0)), (1, .int x), (2, .int y)]) hx hb dL_acts_525 hl (by decide) rfl (fun ls hl => ?_)
        refine lv_aload_n hx hb dL_acts_527 rfl (lv_at hl 2 rfl) ?_
        refine lv_iload hx hb dL_acts_528 (lv_at hl 1 rfl) ?_
        refine lv_iload hx hb dL_acts_530 (lv_at hl 0 rfl) ?_
        have hPc : va_P E.1 vwCl ([(z_W E xa na ma mb ad tx ln nx ct f0 f1 g ga gb v).flatten] : List va_W).flatten H := zf_sub hP [0] rfl
        have hDc : va_D A ([(z_W E xa na ma mb ad tx ln nx ct f0 f1 g ga gb v).flatten] : List va_W).flatten := zf_subD hD [0] (by decide) rfl
        refine z_xmut (Sc := [(z_W E xa na ma mb ad tx ln nx ct f0 f1 g ga gb v).flatten]) (Sr := []) (W1 := [(z_W E xa na ma mb ad tx ln (nI ((m_n nx + 1) % 6)) (nI (if m_n ct < 6 then m_n ct + 1 else 6)) f0 f1 (m_tripC g (a_mi y) (a_pr g y) (m_n (a_mi y))) ga gb (va_up v (m_n nx) g)).flatten]) (vx_runS (As := [.ref (xa 0), .int (a_mi y), .int (a_pr g y)]) (rest := []) ⟨hx, hb, hml, hown, hts⟩ (c_L_travels l E sa hl0 xa na ma mb ad tx ln nx ct f0 f1 g ga gb v hw hg hT5 (a_mi y) (a_pr g y) (a_tr g y) H.size) (va_cwS 3 hts gL_acts_L_travels rfl rfl rfl (by decide +kernel) ⟨Nat.le_of_ble_eq_true rfl, Nat.le_of_ble_eq_true rfl⟩) ⟨zPE.blind, z_preE hK hT hZ hS (zf_free hD hS hA [0] rfl) hPc hDc⟩ rfl rfl hl.1 rfl (lv_room (Nat.le_of_ble_eq_true rfl)) dL_acts_532 ⟨Nat.le_of_ble_eq_true rfl, Nat.le_of_ble_eq_true rfl⟩) hP hD hS hA [0] [] rfl rfl (by decide) (by decide) (fun Ex ce q9 H locs hps hP hD hS hce hcv hcl => hps.elim) (fun H locs _ hP hD hS => ?_)
        have hP : va_P E.1 vwCl ([(z_W E xa na ma mb ad tx ln (nI ((m_n nx + 1) % 6)) (nI (if m_n ct < 6 then m_n ct + 1 else 6)) f0 f1 (m_tripC g (a_mi y) (a_pr g y) (m_n (a_mi y))) ga gb (va_up v (m_n nx) g)).flatten] : List va_W).flatten H := hP
        have hD : va_D A ([(z_W E xa na ma mb ad tx ln (nI ((m_n nx + 1) % 6)) (nI (if m_n ct < 6 then m_n ct + 1 else 6)) f0 f1 (m_tripC g (a_mi y) (a_pr g y) (m_n (a_mi y))) ga gb (va_up v (m_n nx) g)).flatten] : List va_W).flatten := hD
        refine W.widen (k := 7) (n := 40) (by decide) (by decide) ?_
        refine W.eq (g2 := F0 Mi 535 ls [.int 1]) rfl ?_
        have hP : va_P E.1 vwCl ([(z_W E xa na ma mb ad tx ln (nI ((m_n nx + 1) % 6)) (nI (if m_n ct < 6 then m_n ct + 1 else 6)) f0 f1 (m_tripC g (a_mi y) (a_pr g y) (m_n (a_mi y))) ga gb (va_up v (m_n nx) g)).flatten] : List va_W).flatten H := zf_sub hP [0] rfl
        have hD : va_D A ([(z_W E xa na ma mb ad tx ln (nI ((m_n nx + 1) % 6)) (nI (if m_n ct < 6 then m_n ct + 1 else 6)) f0 f1 (m_tripC g (a_mi y) (a_pr g y) (m_n (a_mi y))) ga gb (va_up v (m_n nx) g)).flatten] : List va_W).flatten := zf_subD hD [0] (by decide) rfl
        refine vx_ret ?_
        exact W.zret (v := 1) hx hb hr rfl (z_ende trivial hP hD hS rfl) hS.2.2 dL_acts_535 hlocks
