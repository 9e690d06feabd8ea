set_option maxHeartbeats 4000000 in
set_option maxRecDepth 100000 in
theorem c_L_isAhead (l : Launch) (E : zE) (sa : Nat → Nat) (hl0 : l.stackTraces = false) (xa na ma mb : Nat → Nat) (ad : Nat → Nat → Nat) (tx : Nat → Int32) (ln nx ct f0 f1 : Int32) (g ga gb : Nat → Int32) (v : Nat → Nat → Int32) (hw : z_wk ln nx ct f0 f1 g ga gb v) {T : Nat} (hg : z_g T g) (x : Int32) {e : Nat} (hxe : x = nI e) (he1 : 1 ≤ e) (he2 : e ≤ 20) : zMY l yL_isAhead wsL_isAhead ({ frames := 8, cells := 16, slots := 96, locals := 152 }) E sa [.ref (xa 0), .int x] ([(z_W E xa na ma mb ad tx ln nx ct f0 f1 g ga gb v).flatten] : List va_W).flatten (some (.int 1)) (fun u : Int32 × (Nat → Nat → Int32) => z_wk ln nx u.1 f0 1 g ga g u.2) (fun u => ([(z_W E xa na ma mb ad tx ln nx u.1 f0 1 g ga g u.2).flatten] : List va_W).flatten) 16 96 := by
  refine z_starty (cc := cL_isAhead) (maxL := 8) (ret := (some .boolean)) (by decide) rfl (Nat.le_of_ble_eq_true rfl) ?_
  intro Pg En s Mi below meth Cd A hx hb hr hts hown hlocks hml hnt hA hT hZ H hH hP hK hD hS ls hl
  have hl : lv_has ls 8 [(0, .ref (xa 0)), (1, .int x)] := hl
  rcases w_ahead hg hxe he1 he2 with ⟨c2, ek⟩ | ⟨c2, ca, ek⟩ | ⟨c2, ca, ek⟩ | ⟨i, hi1, hi2, c2, ca, ek, leg, al1, al2⟩
  · refine lv_aload_n hx hb dL_isAhead_0 rfl (lv_at hl 0 rfl) ?_
    have hPc : va_P E.1 vwCl ([(z_W E xa na ma mb ad tx ln nx ct f0 f1 g ga gb v).flatten] : List va_W).flatten H := zf_sub hP [0] rfl
    refine z_rdv (va_runV (As := []) (rest := []) ⟨hx, hb, hml, hown, hts⟩ (c_X9_digest l E xa na ma mb ad tx ln nx ct f0 f1 g ga gb v hw) (cwV 0 hts gL_isAhead_X9_digest rfl rfl rfl (by decide +kernel) ⟨Nat.le_of_ble_eq_true rfl, Nat.le_of_ble_eq_true rfl⟩) ⟨zPr.blind, va_recv hK.1 hPc (ci := 8) (q0 := 0) rfl rfl, z_prer hK hPc⟩ rfl rfl hl.1 rfl (lv_room (Nat.le_of_ble_eq_true rfl)) dL_isAhead_1 ⟨Nat.le_of_ble_eq_true rfl, Nat.le_of_ble_eq_true rfl⟩) ?_
    refine W.eq (g2 := F0 Mi 4 ls [.long (m_dg g)]) rfl ?_
    refine lv_lstore_n (lv' := [(2, .long (m_dg g)), (0, .ref (xa 0)), (1, .int x)]) hx hb dL_isAhead_4 rfl hl (by decide) rfl (fun ls hl => ?_)
    refine lv_aload_n hx hb dL_isAhead_5 rfl (lv_at hl 1 rfl) ?_
    refine lv_iload_n hx hb dL_isAhead_6 rfl (lv_at hl 2 rfl) ?_
    have ph_7 : 1 ≤ x ∧ x ≤ 20 := ⟨by rw [hxe]; exact nI_le (a := 1) he1 (by omega), by rw [hxe]; exact nI_le (b := 20) he2 (by decide)⟩
    have hPc : va_P E.1 vwCl ([(z_W E xa na ma mb ad tx ln nx ct f0 f1 g ga gb v).flatten] : List va_W).flatten H := zf_sub hP [0] rfl
    have hDc : va_D A ([(z_W E xa na ma mb ad tx ln nx ct f0 f1 g ga gb v).flatten] : List va_W).flatten := zf_subD hD [0] (by decide) rfl
    refine z_xmut (Sc := [(z_W E xa na ma mb ad tx ln nx ct f0 f1 g ga gb v).flatten]) (Sr := []) (W1 := [(z_W E xa na ma mb ad tx ln nx ct f0 f1 g ga gb v).flatten]) (vx_runV (As := [.int x]) (rest := []) ⟨hx, hb, hml, hown, hts⟩ (c_X9_minutesToAlarm l E sa hl0 xa na ma mb ad tx ln nx ct f0 f1 g ga gb v hw x H.size) (cwV 1 hts gL_isAhead_X9_minutesToAlarm rfl rfl rfl (by decide +kernel) ⟨Nat.le_of_ble_eq_true rfl, Nat.le_of_ble_eq_true rfl⟩) ⟨zPE.blind, va_recv hK.1 hPc (ci := 8) (q0 := 0) rfl rfl, z_preE hK hT hZ hS (zf_free hD hS hA [0] rfl) hPc hDc⟩ rfl rfl hl.1 rfl (lv_room (Nat.le_of_ble_eq_true rfl)) dL_isAhead_7 ⟨Nat.le_of_ble_eq_true rfl, Nat.le_of_ble_eq_true rfl⟩) hP hD hS hA [0] [] rfl rfl (by decide) (by decide) (fun Ex ce q9 H locs hps hP hD hS hce hcv hcl => ?_) (fun H locs _ hP hD hS => ?_)
    · exact (absurd ph_7 hps.2)
    have hP : va_P E.1 vwCl ([(z_W E xa na ma mb ad tx ln nx ct f0 f1 g ga gb v).flatten] : List va_W).flatten H := hP
    have hD : va_D A ([(z_W E xa na ma mb ad tx ln nx ct f0 f1 g ga gb v).flatten] : List va_W).flatten := hD
    refine W.widen (k := 1) (n := 6) (by decide) (by decide) ?_
    refine W.eq (g2 := F0 Mi 10 ls [.int (m_muC g x)]) rfl ?_
    refine z_topi (y := (-1)) ek ?_
    refine lv_istore (lv' := [(4, .int (-1)), (2, .long (m_dg g)), (0, .ref (xa 0)), (1, .int x)]) hx hb dL_isAhead_10 hl (by decide) rfl (fun ls hl => ?_)
    refine lv_aload_n hx hb dL_isAhead_12 rfl (lv_at hl 2 rfl) ?_
    have hPc : va_P E.1 vwCl ([(z_W E xa na ma mb ad tx ln nx ct f0 f1 g ga gb v).flatten] : List va_W).flatten H := zf_sub hP [0] rfl
    refine z_rdv (va_runV (As := []) (rest := []) ⟨hx, hb, hml, hown, hts⟩ (c_X9_isStation l E xa na ma mb ad tx ln nx ct f0 f1 g ga gb v hw) (cwV 0 hts gL_isAhead_X9_isStation rfl rfl rfl (by decide +kernel) ⟨Nat.le_of_ble_eq_true rfl, Nat.le_of_ble_eq_true rfl⟩) ⟨zPr.blind, va_recv hK.1 hPc (ci := 8) (q0 := 0) rfl rfl, z_prer hK hPc⟩ rfl rfl hl.1 rfl (lv_room (Nat.le_of_ble_eq_true rfl)) dL_isAhead_13 ⟨Nat.le_of_ble_eq_true rfl, Nat.le_of_ble_eq_true rfl⟩) ?_
    refine W.eq (g2 := F0 Mi 16 ls [.int (g 2)]) rfl ?_
    refine lv_if_ne (tgt := 25) hx hb dL_isAhead_16 (by decide) (fun h9 => absurd (c2) h9) (fun _ => ?_)
    refine lv_iload hx hb dL_isAhead_19 (lv_at hl 0 rfl) ?_
    refine lv_iconst (v := (-1)) hx hb dL_isAhead_21 (by decide) ?_
    refine lv_icmp_ne (tgt := 61) hx hb dL_isAhead_22 (by decide) (fun h9 => absurd (rfl) h9) (fun _ => ?_)
    refine lv_iload hx hb dL_isAhead_25 (lv_at hl 0 rfl) ?_
    refine lv_if_ne (tgt := 34) hx hb dL_isAhead_27 (by decide) (fun _ => ?_) (fun h9 => absurd h9 ((by decide)))
    refine lv_iconst (v := 0) hx hb dL_isAhead_34 (by decide) ?_
    refine lv_aload_n hx hb dL_isAhead_35 rfl (lv_at hl 2 rfl) ?_
    have hPc : va_P E.1 vwCl ([(z_W E xa na ma mb ad tx ln nx ct f0 f1 g ga gb v).flatten] : List va_W).flatten H := zf_sub hP [0] rfl
    refine z_rdv (va_runV (As := []) (rest := [.int 0]) ⟨hx, hb, hml, hown, hts⟩ (c_X9_isStation l E xa na ma mb ad tx ln nx ct f0 f1 g ga gb v hw) (cwV 0 hts gL_isAhead_X9_isStation rfl rfl rfl (by decide +kernel) ⟨Nat.le_of_ble_eq_true rfl, Nat.le_of_ble_eq_true rfl⟩) ⟨zPr.blind, va_recv hK.1 hPc (ci := 8) (q0 := 0) rfl rfl, z_prer hK hPc⟩ rfl rfl hl.1 rfl (lv_room (Nat.le_of_ble_eq_true rfl)) dL_isAhead_36 ⟨Nat.le_of_ble_eq_true rfl, Nat.le_of_ble_eq_true rfl⟩) ?_
    refine W.eq (g2 := F0 Mi 39 ls [.int (g 2), .int 0]) rfl ?_
    refine lv_if_eq (tgt := 53) hx hb dL_isAhead_39 (by decide) (fun _ => ?_) (fun h9 => absurd (c2) h9)
    refine lv_iconst (v := 0) hx hb dL_isAhead_53 (by decide) ?_
    refine lv_icmp_ne (tgt := 61) hx hb dL_isAhead_54 (by decide) (fun h9 => absurd ((by decide)) h9) (fun _ => ?_)
    refine lv_iconst (v := 1) hx hb dL_isAhead_57 (by decide) ?_
    refine lv_goto (tgt := 62) hx hb dL_isAhead_58 (by decide) ?_
    refine lv_istore (lv' := [(5, .int 1), (4, .int (-1)), (2, .long (m_dg g)), (0, .ref (xa 0)), (1, .int x)]) hx hb dL_isAhead_62 hl (by decide) rfl (fun ls hl => ?_)
    refine lv_aload_n hx hb dL_isAhead_64 rfl (lv_at hl 3 rfl) ?_
    have hPc : va_P E.1 vwCl ([(z_W E xa na ma mb ad tx ln nx ct f0 f1 g ga gb v).flatten] : List va_W).flatten H := zf_sub hP [0] rfl
    refine z_rdv (va_runV (As := []) (rest := []) ⟨hx, hb, hml, hown, hts⟩ (c_X9_pressure l E xa na ma mb ad tx ln nx ct f0 f1 g ga gb v hw) (cwV 0 hts gL_isAhead_X9_pressure rfl rfl rfl (by decide +kernel) ⟨Nat.le_of_ble_eq_true rfl, Nat.le_of_ble_eq_true rfl⟩) ⟨zPr.blind, va_recv hK.1 hPc (ci := 8) (q0 := 0) rfl rfl, z_prer hK hPc⟩ rfl rfl hl.1 rfl (lv_room (Nat.le_of_ble_eq_true rfl)) dL_isAhead_65 ⟨Nat.le_of_ble_eq_true rfl, Nat.le_of_ble_eq_true rfl⟩) ?_
    refine W.eq (g2 := F0 Mi 68 ls [.int (g 0)]) rfl ?_
    refine lv_istore (lv' := [(6, .int (g 0)), (5, .int 1), (4, .int (-1)), (2, .long (m_dg g)), (0, .ref (xa 0)), (1, .int x)]) hx hb dL_isAhead_68 hl (by decide) rfl (fun ls hl => ?_)
    refine lv_iload hx hb dL_isAhead_70 (lv_at hl 1 rfl) ?_
    refine lv_if_eq (tgt := 184) hx hb dL_isAhead_72 (by decide) (fun h9 => absurd h9 ((by decide))) (fun _ => ?_)
    refine lv_iload hx hb dL_isAhead_75 (lv_at hl 2 rfl) ?_
    refine lv_if_le (tgt := 184) hx hb dL_isAhead_77 (by decide) (fun _ => ?_) (fun h9 => absurd ((by decide)) h9)
    refine lv_aload_n hx hb dL_isAhead_184 rfl (lv_at hl 4 rfl) ?_
    refine lv_iconst (v := 1) hx hb dL_isAhead_185 (by decide) ?_
    have ph_186 : (0 : Int32) ≤ 1 ∧ (1 : Int32) ≤ 1 := ⟨by decide, by decide⟩
    have hPc : va_P E.1 vwCl ([(z_W E xa na ma mb ad tx ln nx ct f0 f1 g ga gb v).flatten] : List va_W).flatten H := zf_sub hP [0] rfl
    have hDc : va_D A ([(z_W E xa na ma mb ad tx ln nx ct f0 f1 g ga gb v).flatten] : List va_W).flatten := zf_subD hD [0] (by decide) rfl
    refine z_xmut (Sc := [(z_W E xa na ma mb ad tx ln nx ct f0 f1 g ga gb v).flatten]) (Sr := []) (W1 := [(z_W E xa na ma mb ad tx ln nx ct f0 1 g ga g v).flatten]) (vx_runV (As := [.int 1]) (rest := []) ⟨hx, hb, hml, hown, hts⟩ (c_X9_store1 l E sa hl0 xa na ma mb ad tx ln nx ct f0 f1 g ga gb v hw H.size) (cwV 1 hts gL_isAhead_X9_store rfl rfl rfl (by decide +kernel) ⟨Nat.le_of_ble_eq_true rfl, Nat.le_of_ble_eq_true rfl⟩) ⟨zPE.blind, va_recv hK.1 hPc (ci := 8) (q0 := 0) rfl rfl, z_preE hK hT hZ hS (zf_free hD hS hA [0] rfl) hPc hDc⟩ rfl rfl hl.1 rfl (lv_room (Nat.le_of_ble_eq_true rfl)) dL_isAhead_186 ⟨Nat.le_of_ble_eq_true rfl, Nat.le_of_ble_eq_true rfl⟩) hP hD hS hA [0] [] rfl rfl (by decide) (by decide) (fun Ex ce q9 H locs hps hP hD hS hce hcv hcl => ?_) (fun H locs _ hP hD hS => ?_)
    · exact (absurd ph_186 hps.2)
    have hP : va_P E.1 vwCl ([(z_W E xa na ma mb ad tx ln nx ct f0 1 g ga g v).flatten] : List va_W).flatten H := hP
    have hD : va_D A ([(z_W E xa na ma mb ad tx ln nx ct f0 1 g ga g v).flatten] : List va_W).flatten := hD
    refine W.widen (k := 2) (n := 12) (by decide) (by decide) ?_
    refine W.eq (g2 := F0 Mi 189 ls [.int (m_std (g 0) - m_std (g 1))]) rfl ?_
    have hw_1 : z_wk ln nx ct f0 1 g ga g v := z_wk_st1 hw
    refine lv_istore (lv' := [(7, .int (m_std (g 0) - m_std (g 1))), (6, .int (g 0)), (5, .int 1), (4, .int (-1)), (2, .long (m_dg g)), (0, .ref (xa 0)), (1, .int x)]) hx hb dL_isAhead_189 hl (by decide) rfl (fun ls hl => ?_)
    refine lv_iload hx hb dL_isAhead_191 (lv_at hl 2 rfl) ?_
    refine lv_if_eq (tgt := 274) hx hb dL_isAhead_193 (by decide) (fun h9 => absurd h9 ((by decide))) (fun _ => ?_)
    refine lv_iload hx hb dL_isAhead_196 (lv_at hl 0 rfl) ?_
    refine lv_aload_n hx hb dL_isAhead_198 rfl (lv_at hl 5 rfl) ?_
    have hPc : va_P E.1 vwCl ([(z_W E xa na ma mb ad tx ln nx ct f0 1 g ga g v).flatten] : List va_W).flatten H := zf_sub hP [0] rfl
    refine z_rdv (va_runV (As := []) (rest := [.int (m_std (g 0) - m_std (g 1))]) ⟨hx, hb, hml, hown, hts⟩ (c_X9_altitude l E xa na ma mb ad tx ln nx ct f0 1 g ga g v hw_1) (cwV 0 hts gL_isAhead_X9_altitude rfl rfl rfl (by decide +kernel) ⟨Nat.le_of_ble_eq_true rfl, Nat.le_of_ble_eq_true rfl⟩) ⟨zPr.blind, va_recv hK.1 hPc (ci := 8) (q0 := 0) rfl rfl, z_prer hK hPc⟩ rfl rfl hl.1 rfl (lv_room (Nat.le_of_ble_eq_true rfl)) dL_isAhead_199 ⟨Nat.le_of_ble_eq_true rfl, Nat.le_of_ble_eq_true rfl⟩) ?_
    refine W.eq (g2 := F0 Mi 202 ls [.int (m_std (g 0) - m_std (g 1)), .int (m_std (g 0) - m_std (g 1))]) rfl ?_
    refine lv_icmp_ne (tgt := 274) hx hb dL_isAhead_202 (by decide) (fun h9 => absurd (rfl) h9) (fun _ => ?_)
    refine lv_aload_n hx hb dL_isAhead_205 rfl (lv_at hl 5 rfl) ?_
    have hPc : va_P E.1 vwCl ([(z_W E xa na ma mb ad tx ln nx ct f0 1 g ga g v).flatten] : List va_W).flatten H := zf_sub hP [0] rfl
    refine z_rdv (va_runV (As := []) (rest := []) ⟨hx, hb, hml, hown, hts⟩ (c_X9_digest l E xa na ma mb ad tx ln nx ct f0 1 g ga g v hw_1) (cwV 0 hts gL_isAhead_X9_digest rfl rfl rfl (by decide +kernel) ⟨Nat.le_of_ble_eq_true rfl, Nat.le_of_ble_eq_true rfl⟩) ⟨zPr.blind, va_recv hK.1 hPc (ci := 8) (q0 := 0) rfl rfl, z_prer hK hPc⟩ rfl rfl hl.1 rfl (lv_room (Nat.le_of_ble_eq_true rfl)) dL_isAhead_206 ⟨Nat.le_of_ble_eq_true rfl, Nat.le_of_ble_eq_true rfl⟩) ?_
    refine W.eq (g2 := F0 Mi 209 ls [.long (m_dg g)]) rfl ?_
    refine lv_lload_n hx hb dL_isAhead_209 rfl (lv_at hl 4 rfl) ?_
    refine W.lcmp hx hb dL_isAhead_210 ?_
    refine lv_if_ne (tgt := 274) hx hb dL_isAhead_211 (by decide) (fun h9 => absurd (z_lcs _) h9) (fun _ => ?_)
    refine lv_aload_n hx hb dL_isAhead_214 rfl (lv_at hl 5 rfl) ?_
    refine lv_bipush (v := 77) hx hb dL_isAhead_215 (by decide) ?_
    have ph_217 : 10 ≤ (77 : Int32) ∧ (77 : Int32) ≤ 500 := ⟨by decide, by decide⟩
    have hPc : va_P E.1 vwCl ([(z_W E xa na ma mb ad tx ln nx ct f0 1 g ga g v).flatten] : List va_W).flatten H := zf_sub hP [0] rfl
    have hDc : va_D A ([(z_W E xa na ma mb ad tx ln nx ct f0 1 g ga g v).flatten] : List va_W).flatten := zf_subD hD [0] (by decide) rfl
    refine z_xmut (Sc := [(z_W E xa na ma mb ad tx ln nx ct f0 1 g ga g v).flatten]) (Sr := []) (W1 := [(z_W E xa na ma mb ad tx ln (nI ((m_n nx + 1) % 6)) (nI (if m_n ct < 6 then m_n ct + 1 else 6)) f0 1 (upd g 10 (77 : Int32)) ga g (va_up v (m_n nx) g)).flatten]) (vx_runV (As := [.int 77]) (rest := []) ⟨hx, hb, hml, hown, hts⟩ (c_X9_setThreshold l E sa hl0 xa na ma mb ad tx ln nx ct f0 1 g ga g v hw_1 77 H.size) (cwV 1 hts gL_isAhead_X9_setThreshold rfl rfl rfl (by decide +kernel) ⟨Nat.le_of_ble_eq_true rfl, Nat.le_of_ble_eq_true rfl⟩) ⟨zPE.blind, va_recv hK.1 hPc (ci := 8) (q0 := 0) rfl rfl, z_preE hK hT hZ hS (zf_free hD hS hA [0] rfl) hPc hDc⟩ rfl rfl hl.1 rfl (lv_room (Nat.le_of_ble_eq_true rfl)) dL_isAhead_217 ⟨Nat.le_of_ble_eq_true rfl, Nat.le_of_ble_eq_true rfl⟩) hP hD hS hA [0] [] rfl rfl (by decide) (by decide) (fun Ex ce q9 H locs hps hP hD hS hce hcv hcl => ?_) (fun H locs _ hP hD hS => ?_)
    · exact (absurd ph_217 hps.2)
    have hP : va_P E.1 vwCl ([(z_W E xa na ma mb ad tx ln (nI ((m_n nx + 1) % 6)) (nI (if m_n ct < 6 then m_n ct + 1 else 6)) f0 1 (upd g 10 (77 : Int32)) ga g (va_up v (m_n nx) g)).flatten] : List va_W).flatten H := hP
    have hD : va_D A ([(z_W E xa na ma mb ad tx ln (nI ((m_n nx + 1) % 6)) (nI (if m_n ct < 6 then m_n ct + 1 else 6)) f0 1 (upd g 10 (77 : Int32)) ga g (va_up v (m_n nx) g)).flatten] : List va_W).flatten := hD
    refine W.widen (k := 3) (n := 18) (by decide) (by decide) ?_
    refine W.eq (g2 := F0 Mi 220 ls [.int (g 10)]) rfl ?_
    have hw_2 : z_wk ln (nI ((m_n nx + 1) % 6)) (nI (if m_n ct < 6 then m_n ct + 1 else 6)) f0 1 (upd g 10 (77 : Int32)) ga g (va_up v (m_n nx) g) := z_wk_save hw_1 (show z_ok (upd g 10 (77 : Int32)) from z_ok_thr hw.1)
    obtain ⟨n5, e_n5⟩ : ∃ z, z = (nI ((m_n nx + 1) % 6)) := ⟨_, rfl⟩
    obtain ⟨c5, e_c5⟩ : ∃ z, z = (nI (if m_n ct < 6 then m_n ct + 1 else 6)) := ⟨_, rfl⟩
    obtain ⟨v5, e_v5⟩ : ∃ z, z = (va_up v (m_n nx) g) := ⟨_, rfl⟩
    have hP : va_P E.1 vwCl ([(z_W E xa na ma mb ad tx ln n5 c5 f0 1 (upd g 10 (77 : Int32)) ga g v5).flatten] : List va_W).flatten H := by rw [e_n5, e_c5, e_v5]; exact hP
    have hD : va_D A ([(z_W E xa na ma mb ad tx ln n5 c5 f0 1 (upd g 10 (77 : Int32)) ga g v5).flatten] : List va_W).flatten := by rw [e_n5, e_c5, e_v5]; exact hD
    have hw_3 : z_wk ln n5 c5 f0 1 (upd g 10 (77 : Int32)) ga g v5 := by rw [e_n5, e_c5, e_v5]; exact hw_2
    refine lv_bipush (v := 10) hx hb dL_isAhead_220 (by decide) ?_
    refine lv_icmp_lt (tgt := 274) hx hb dL_isAhead_222 (by decide) (fun h9 => absurd h9 (h_10 hg)) (fun _ => ?_)
    refine lv_aload_n hx hb dL_isAhead_225 rfl (lv_at hl 5 rfl) ?_
    refine lv_iconst (v := 3) hx hb dL_isAhead_226 (by decide) ?_
    refine lv_iload hx hb dL_isAhead_227 (lv_at hl 1 rfl) ?_
    refine lv_bipush (v := 60) hx hb dL_isAhead_229 (by decide) ?_
    refine lv_iadd hx hb dL_isAhead_231 ?_
    refine lv_sipush (v := 5000) hx hb dL_isAhead_232 (by decide) ?_
    refine lv_sipush (v := 11000) hx hb dL_isAhead_235 (by decide) ?_
    refine z_rdv (va_runS (As := [.int ((g 0) + 60), .int 5000, .int 11000]) (rest := [.int 3, .ref (xa 0)]) ⟨hx, hb, hml, hown, hts⟩ (c_L_within l E ((g 0) + 60) 5000 11000) (va_cwS 3 hts gL_isAhead_L_within rfl rfl rfl (by decide +kernel) ⟨Nat.le_of_ble_eq_true rfl, Nat.le_of_ble_eq_true rfl⟩) ⟨zPr.blind, z_prer hK zP_nil⟩ rfl rfl hl.1 rfl (lv_room (Nat.le_of_ble_eq_true rfl)) dL_isAhead_238 ⟨Nat.le_of_ble_eq_true rfl, Nat.le_of_ble_eq_true rfl⟩) ?_
    refine W.eq (g2 := F0 Mi 241 ls [.int (a_wi ((g 0) + 60) 5000 11000), .int 3, .ref (xa 0)]) rfl ?_
    have ph_241 : (1 ≤ (3 : Int32) ∧ (3 : Int32) ≤ 120) ∧ (5000 ≤ (a_wi ((g 0) + 60) 5000 11000) ∧ (a_wi ((g 0) + 60) 5000 11000) ≤ 11000) := ⟨⟨by decide, by decide⟩, a_wi_r (by decide)⟩
    have hPc : va_P E.1 vwCl ([(z_W E xa na ma mb ad tx ln n5 c5 f0 1 (upd g 10 (77 : Int32)) ga g v5).flatten] : List va_W).flatten H := zf_sub hP [0] rfl
    have hDc : va_D A ([(z_W E xa na ma mb ad tx ln n5 c5 f0 1 (upd g 10 (77 : Int32)) ga g v5).flatten] : List va_W).flatten := zf_subD hD [0] (by decide) rfl
    refine z_xmut (Sc := [(z_W E xa na ma mb ad tx ln n5 c5 f0 1 (upd g 10 (77 : Int32)) ga g v5).flatten]) (Sr := []) (W1 := [(z_W E xa na ma mb ad tx ln (nI ((m_n n5 + 1) % 6)) (nI (if m_n c5 < 6 then m_n c5 + 1 else 6)) f0 1 (m_tripC (upd g 10 (77 : Int32)) (3 : Int32) (a_wi ((g 0) + 60) 5000 11000) (m_n (3 : Int32))) ga g (va_up v5 (m_n n5) (upd g 10 (77 : Int32)))).flatten]) (vx_runV (As := [.int 3, .int (a_wi ((g 0) + 60) 5000 11000)]) (rest := []) ⟨hx, hb, hml, hown, hts⟩ (c_X9_travel l E sa hl0 xa na ma mb ad tx ln n5 c5 f0 1 (upd g 10 (77 : Int32)) ga g v5 hw_3 3 (a_wi ((g 0) + 60) 5000 11000) H.size) (cwV 2 hts gL_isAhead_X9_travel rfl rfl rfl (by decide +kernel) ⟨Nat.le_of_ble_eq_true rfl, Nat.le_of_ble_eq_true rfl⟩) ⟨zPE.blind, va_recv hK.1 hPc (ci := 8) (q0 := 0) rfl rfl, z_preE hK hT hZ hS (zf_free hD hS hA [0] rfl) hPc hDc⟩ rfl rfl hl.1 rfl (lv_room (Nat.le_of_ble_eq_true rfl)) dL_isAhead_241 ⟨Nat.le_of_ble_eq_true rfl, Nat.le_of_ble_eq_true rfl⟩) hP hD hS hA [0] [] rfl rfl (by decide) (by decide) (fun Ex ce q9 H locs hps hP hD hS hce hcv hcl => ?_) (fun H locs _ hP hD hS => ?_)
    · exact (absurd ph_241 hps.2)
    have hP : va_P E.1 vwCl ([(z_W E xa na ma mb ad tx ln (nI ((m_n n5 + 1) % 6)) (nI (if m_n c5 < 6 then m_n c5 + 1 else 6)) f0 1 (m_tripC (upd g 10 (77 : Int32)) (3 : Int32) (a_wi ((g 0) + 60) 5000 11000) (m_n (3 : Int32))) ga g (va_up v5 (m_n n5) (upd g 10 (77 : Int32)))).flatten] : List va_W).flatten H := hP
    have hD : va_D A ([(z_W E xa na ma mb ad tx ln (nI ((m_n n5 + 1) % 6)) (nI (if m_n c5 < 6 then m_n c5 + 1 else 6)) f0 1 (m_tripC (upd g 10 (77 : Int32)) (3 : Int32) (a_wi ((g 0) + 60) 5000 11000) (m_n (3 : Int32))) ga g (va_up v5 (m_n n5) (upd g 10 (77 : Int32)))).flatten] : List va_W).flatten := hD
    refine W.widen (k := 5) (n := 30) (by decide) (by decide) ?_
    refine W.eq (g2 := F0 Mi 244 ls [.int (m_std ((m_tripC (upd g 10 (77 : Int32)) (3 : Int32) (a_wi ((g 0) + 60) 5000 11000) (m_n (3 : Int32))) 0) - m_std ((m_tripC (upd g 10 (77 : Int32)) (3 : Int32) (a_wi ((g 0) + 60) 5000 11000) (m_n (3 : Int32))) 1))]) rfl ?_
    have hw_4 : z_wk ln (nI ((m_n n5 + 1) % 6)) (nI (if m_n c5 < 6 then m_n c5 + 1 else 6)) f0 1 (m_tripC (upd g 10 (77 : Int32)) (3 : Int32) (a_wi ((g 0) + 60) 5000 11000) (m_n (3 : Int32))) ga g (va_up v5 (m_n n5) (upd g 10 (77 : Int32))) := z_wk_save hw_3 (show z_ok (m_tripC (upd g 10 (77 : Int32)) (3 : Int32) (a_wi ((g 0) + 60) 5000 11000) (m_n (3 : Int32))) from z_ok_trip (z_ok_thr hw.1) _)
    obtain ⟨n6, e_n6⟩ : ∃ z, z = (nI ((m_n n5 + 1) % 6)) := ⟨_, rfl⟩
    obtain ⟨c6, e_c6⟩ : ∃ z, z = (nI (if m_n c5 < 6 then m_n c5 + 1 else 6)) := ⟨_, rfl⟩
    obtain ⟨v6, e_v6⟩ : ∃ z, z = (va_up v5 (m_n n5) (upd g 10 (77 : Int32))) := ⟨_, rfl⟩
    have hP : va_P E.1 vwCl ([(z_W E xa na ma mb ad tx ln n6 c6 f0 1 (m_tripC (upd g 10 (77 : Int32)) (3 : Int32) (a_wi ((g 0) + 60) 5000 11000) (m_n (3 : Int32))) ga g v6).flatten] : List va_W).flatten H := by rw [e_n6, e_c6, e_v6]; exact hP
    have hD : va_D A ([(z_W E xa na ma mb ad tx ln n6 c6 f0 1 (m_tripC (upd g 10 (77 : Int32)) (3 : Int32) (a_wi ((g 0) + 60) 5000 11000) (m_n (3 : Int32))) ga g v6).flatten] : List va_W).flatten := by rw [e_n6, e_c6, e_v6]; exact hD
    have hw_5 : z_wk ln n6 c6 f0 1 (m_tripC (upd g 10 (77 : Int32)) (3 : Int32) (a_wi ((g 0) + 60) 5000 11000) (m_n (3 : Int32))) ga g v6 := by rw [e_n6, e_c6, e_v6]; exact hw_4
    refine lv_aload_n hx hb dL_isAhead_244 rfl (lv_at hl 5 rfl) ?_
    have hPc : va_P E.1 vwCl ([(z_W E xa na ma mb ad tx ln n6 c6 f0 1 (m_tripC (upd g 10 (77 : Int32)) (3 : Int32) (a_wi ((g 0) + 60) 5000 11000) (m_n (3 : Int32))) ga g v6).flatten] : List va_W).flatten H := zf_sub hP [0] rfl
    refine z_rdv (va_runV (As := []) (rest := [.int (m_std ((m_tripC (upd g 10 (77 : Int32)) (3 : Int32) (a_wi ((g 0) + 60) 5000 11000) (m_n (3 : Int32))) 0) - m_std ((m_tripC (upd g 10 (77 : Int32)) (3 : Int32) (a_wi ((g 0) + 60) 5000 11000) (m_n (3 : Int32))) 1))]) ⟨hx, hb, hml, hown, hts⟩ (c_X9_altitude l E xa na ma mb ad tx ln n6 c6 f0 1 (m_tripC (upd g 10 (77 : Int32)) (3 : Int32) (a_wi ((g 0) + 60) 5000 11000) (m_n (3 : Int32))) ga g v6 hw_5) (cwV 0 hts gL_isAhead_X9_altitude rfl rfl rfl (by decide +kernel) ⟨Nat.le_of_ble_eq_true rfl, Nat.le_of_ble_eq_true rfl⟩) ⟨zPr.blind, va_recv hK.1 hPc (ci := 8) (q0 := 0) rfl rfl, z_prer hK hPc⟩ rfl rfl hl.1 rfl (lv_room (Nat.le_of_ble_eq_true rfl)) dL_isAhead_245 ⟨Nat.le_of_ble_eq_true rfl, Nat.le_of_ble_eq_true rfl⟩) ?_
    refine W.eq (g2 := F0 Mi 248 ls [.int (m_std ((m_tripC (upd g 10 (77 : Int32)) (3 : Int32) (a_wi ((g 0) + 60) 5000 11000) (m_n (3 : Int32))) 0) - m_std ((m_tripC (upd g 10 (77 : Int32)) (3 : Int32) (a_wi ((g 0) + 60) 5000 11000) (m_n (3 : Int32))) 1)), .int (m_std ((m_tripC (upd g 10 (77 : Int32)) (3 : Int32) (a_wi ((g 0) + 60) 5000 11000) (m_n (3 : Int32))) 0) - m_std ((m_tripC (upd g 10 (77 : Int32)) (3 : Int32) (a_wi ((g 0) + 60) 5000 11000) (m_n (3 : Int32))) 1))]) rfl ?_
    refine lv_icmp_ne (tgt := 274) hx hb dL_isAhead_248 (by decide) (fun h9 => absurd (rfl) h9) (fun _ => ?_)
    refine lv_aload_n hx hb dL_isAhead_251 rfl (lv_at hl 5 rfl) ?_
    refine lv_iconst (v := 1) hx hb dL_isAhead_252 (by decide) ?_
    have ph_253 : ((0 : Int32) ≤ 1 ∧ (1 : Int32) ≤ 1) ∧ ¬ (1 : Int32) = 0 := ⟨⟨by decide, by decide⟩, by decide⟩
    have hPc : va_P E.1 vwCl ([(z_W E xa na ma mb ad tx ln n6 c6 f0 1 (m_tripC (upd g 10 (77 : Int32)) (3 : Int32) (a_wi ((g 0) + 60) 5000 11000) (m_n (3 : Int32))) ga g v6).flatten] : List va_W).flatten H := zf_sub hP [0] rfl
    have hDc : va_D A ([(z_W E xa na ma mb ad tx ln n6 c6 f0 1 (m_tripC (upd g 10 (77 : Int32)) (3 : Int32) (a_wi ((g 0) + 60) 5000 11000) (m_n (3 : Int32))) ga g v6).flatten] : List va_W).flatten := zf_subD hD [0] (by decide) rfl
    refine z_xmut (Sc := [(z_W E xa na ma mb ad tx ln n6 c6 f0 1 (m_tripC (upd g 10 (77 : Int32)) (3 : Int32) (a_wi ((g 0) + 60) 5000 11000) (m_n (3 : Int32))) ga g v6).flatten]) (Sr := []) (W1 := [(z_W E xa na ma mb ad tx ln (nI ((m_n n6 + 1) % 6)) (nI (if m_n c6 < 6 then m_n c6 + 1 else 6)) f0 1 g ga g (va_up v6 (m_n n6) (m_tripC (upd g 10 (77 : Int32)) (3 : Int32) (a_wi ((g 0) + 60) 5000 11000) (m_n (3 : Int32))))).flatten]) (vx_runV (As := [.int 1]) (rest := []) ⟨hx, hb, hml, hown, hts⟩ (c_X9_recall1 l E sa hl0 xa na ma mb ad tx ln n6 c6 f0 1 (m_tripC (upd g 10 (77 : Int32)) (3 : Int32) (a_wi ((g 0) + 60) 5000 11000) (m_n (3 : Int32))) ga g v6 hw_5 H.size) (cwV 1 hts gL_isAhead_X9_recall rfl rfl rfl (by decide +kernel) ⟨Nat.le_of_ble_eq_true rfl, Nat.le_of_ble_eq_true rfl⟩) ⟨zPE.blind, va_recv hK.1 hPc (ci := 8) (q0 := 0) rfl rfl, z_preE hK hT hZ hS (zf_free hD hS hA [0] rfl) hPc hDc⟩ rfl rfl hl.1 rfl (lv_room (Nat.le_of_ble_eq_true rfl)) dL_isAhead_253 ⟨Nat.le_of_ble_eq_true rfl, Nat.le_of_ble_eq_true rfl⟩) hP hD hS hA [0] [] rfl rfl (by decide) (by decide) (fun Ex ce q9 H locs hps hP hD hS hce hcv hcl => ?_) (fun H locs _ hP hD hS => ?_)
    · exact (hps.elim (fun z => absurd ph_253.1 z.2) (fun z => absurd z.2.2 ph_253.2))
    have hP : va_P E.1 vwCl ([(z_W E xa na ma mb ad tx ln (nI ((m_n n6 + 1) % 6)) (nI (if m_n c6 < 6 then m_n c6 + 1 else 6)) f0 1 g ga g (va_up v6 (m_n n6) (m_tripC (upd g 10 (77 : Int32)) (3 : Int32) (a_wi ((g 0) + 60) 5000 11000) (m_n (3 : Int32))))).flatten] : List va_W).flatten H := hP
    have hD : va_D A ([(z_W E xa na ma mb ad tx ln (nI ((m_n n6 + 1) % 6)) (nI (if m_n c6 < 6 then m_n c6 + 1 else 6)) f0 1 g ga g (va_up v6 (m_n n6) (m_tripC (upd g 10 (77 : Int32)) (3 : Int32) (a_wi ((g 0) + 60) 5000 11000) (m_n (3 : Int32))))).flatten] : List va_W).flatten := hD
    refine W.widen (k := 7) (n := 42) (by decide) (by decide) ?_
    refine W.eq (g2 := F0 Mi 256 ls [.int (m_std (g 0) - m_std (g 1))]) rfl ?_
    have hw_6 : z_wk ln (nI ((m_n n6 + 1) % 6)) (nI (if m_n c6 < 6 then m_n c6 + 1 else 6)) f0 1 g ga g (va_up v6 (m_n n6) (m_tripC (upd g 10 (77 : Int32)) (3 : Int32) (a_wi ((g 0) + 60) 5000 11000) (m_n (3 : Int32)))) := z_wk_save hw_5 (show z_ok g from hw.1)
    obtain ⟨n7, e_n7⟩ : ∃ z, z = (nI ((m_n n6 + 1) % 6)) := ⟨_, rfl⟩
    obtain ⟨c7, e_c7⟩ : ∃ z, z = (nI (if m_n c6 < 6 then m_n c6 + 1 else 6)) := ⟨_, rfl⟩
    obtain ⟨v7, e_v7⟩ : ∃ z, z = (va_up v6 (m_n n6) (m_tripC (upd g 10 (77 : Int32)) (3 : Int32) (a_wi ((g 0) + 60) 5000 11000) (m_n (3 : Int32)))) := ⟨_, rfl⟩
    have hP : va_P E.1 vwCl ([(z_W E xa na ma mb ad tx ln n7 c7 f0 1 g ga g v7).flatten] : List va_W).flatten H := by rw [e_n7, e_c7, e_v7]; exact hP
    have hD : va_D A ([(z_W E xa na ma mb ad tx ln n7 c7 f0 1 g ga g v7).flatten] : List va_W).flatten := by rw [e_n7, e_c7, e_v7]; exact hD
    have hw_7 : z_wk ln n7 c7 f0 1 g ga g v7 := by rw [e_n7, e_c7, e_v7]; exact hw_6
    refine lv_iload hx hb dL_isAhead_256 (lv_at hl 0 rfl) ?_
    refine lv_icmp_ne (tgt := 274) hx hb dL_isAhead_258 (by decide) (fun h9 => absurd (rfl) h9) (fun _ => ?_)
    refine lv_aload_n hx hb dL_isAhead_261 rfl (lv_at hl 5 rfl) ?_
    have hPc : va_P E.1 vwCl ([(z_W E xa na ma mb ad tx ln n7 c7 f0 1 g ga g v7).flatten] : List va_W).flatten H := zf_sub hP [0] rfl
    refine z_rdv (va_runV (As := []) (rest := []) ⟨hx, hb, hml, hown, hts⟩ (c_X9_digest l E xa na ma mb ad tx ln n7 c7 f0 1 g ga g v7 hw_7) (cwV 0 hts gL_isAhead_X9_digest rfl rfl rfl (by decide +kernel) ⟨Nat.le_of_ble_eq_true rfl, Nat.le_of_ble_eq_true rfl⟩) ⟨zPr.blind, va_recv hK.1 hPc (ci := 8) (q0 := 0) rfl rfl, z_prer hK hPc⟩ rfl rfl hl.1 rfl (lv_room (Nat.le_of_ble_eq_true rfl)) dL_isAhead_262 ⟨Nat.le_of_ble_eq_true rfl, Nat.le_of_ble_eq_true rfl⟩) ?_
    refine W.eq (g2 := F0 Mi 265 ls [.long (m_dg g)]) rfl ?_
    refine lv_lload_n hx hb dL_isAhead_265 rfl (lv_at hl 4 rfl) ?_
    refine W.lcmp hx hb dL_isAhead_266 ?_
    refine lv_if_ne (tgt := 274) hx hb dL_isAhead_267 (by decide) (fun h9 => absurd (z_lcs _) h9) (fun _ => ?_)
    refine lv_iconst (v := 1) hx hb dL_isAhead_270 (by decide) ?_
    refine lv_goto (tgt := 275) hx hb dL_isAhead_271 (by decide) ?_
    refine lv_istore (lv' := [(5, .int 1), (7, .int (m_std (g 0) - m_std (g 1))), (6, .int (g 0)), (4, .int (-1)), (2, .long (m_dg g)), (0, .ref (xa 0)), (1, .int x)]) hx hb dL_isAhead_275 hl (by decide) rfl (fun ls hl => ?_)
    refine lv_iload hx hb dL_isAhead_277 (lv_at hl 0 rfl) ?_
    refine lv_if_eq (tgt := 316) hx hb dL_isAhead_279 (by decide) (fun h9 => absurd h9 ((by decide))) (fun _ => ?_)
    refine lv_aload_n hx hb dL_isAhead_282 rfl (lv_at hl 5 rfl) ?_
    have L5 := r_lo1 (r_lo0 hw.2.2.1) (by decide) e_c5
    have L6 := r_lo1 L5 (by decide) e_c6
    have L7 := r_lo1 L6 (by decide) e_c7
    have ph_283 : ¬ c7 = 0 := r_ne L7
    have hPc : va_P E.1 vwCl ([(z_W E xa na ma mb ad tx ln n7 c7 f0 1 g ga g v7).flatten] : List va_W).flatten H := zf_sub hP [0] rfl
    have hDc : va_D A ([(z_W E xa na ma mb ad tx ln n7 c7 f0 1 g ga g v7).flatten] : List va_W).flatten := zf_subD hD [0] (by decide) rfl
    refine z_xmut (Sc := [(z_W E xa na ma mb ad tx ln n7 c7 f0 1 g ga g v7).flatten]) (Sr := []) (W1 := [(z_W E xa na ma mb ad tx ln n6 (nI (m_n c7 - 1)) f0 1 (m_tripC (upd g 10 (77 : Int32)) (3 : Int32) (a_wi ((g 0) + 60) 5000 11000) (m_n (3 : Int32))) ga g v7).flatten]) (vx_runV (As := []) (rest := []) ⟨hx, hb, hml, hown, hts⟩ (c_X9_undoG l E sa hl0 xa na ma mb ad tx ln n7 c7 f0 1 g ga g v7 hw_7 (r_e1 hw_5.2.1 e_n7) (r_e2 hw_5.2.1 e_n7 e_v7) H.size) (cwV 0 hts gL_isAhead_X9_undo rfl rfl rfl (by decide +kernel) ⟨Nat.le_of_ble_eq_true rfl, Nat.le_of_ble_eq_true rfl⟩) ⟨zPE.blind, va_recv hK.1 hPc (ci := 8) (q0 := 0) rfl rfl, z_preE hK hT hZ hS (zf_free hD hS hA [0] rfl) hPc hDc⟩ rfl rfl hl.1 rfl (lv_room (Nat.le_of_ble_eq_true rfl)) dL_isAhead_283 ⟨Nat.le_of_ble_eq_true rfl, Nat.le_of_ble_eq_true rfl⟩) hP hD hS hA [0] [] rfl rfl (by decide) (by decide) (fun Ex ce q9 H locs hps hP hD hS hce hcv hcl => ?_) (fun H locs _ hP hD hS => ?_)
    · exact (absurd hps.2 ph_283)
    have hP : va_P E.1 vwCl ([(z_W E xa na ma mb ad tx ln n6 (nI (m_n c7 - 1)) f0 1 (m_tripC (upd g 10 (77 : Int32)) (3 : Int32) (a_wi ((g 0) + 60) 5000 11000) (m_n (3 : Int32))) ga g v7).flatten] : List va_W).flatten H := hP
    have hD : va_D A ([(z_W E xa na ma mb ad tx ln n6 (nI (m_n c7 - 1)) f0 1 (m_tripC (upd g 10 (77 : Int32)) (3 : Int32) (a_wi ((g 0) + 60) 5000 11000) (m_n (3 : Int32))) ga g v7).flatten] : List va_W).flatten := hD
    refine W.widen (k := 8) (n := 48) (by decide) (by decide) ?_
    refine W.eq (g2 := F0 Mi 286 ls [.int (nI (m_n c7 - 1))]) rfl ?_
    have hw_8 : z_wk ln n6 (nI (m_n c7 - 1)) f0 1 (m_tripC (upd g 10 (77 : Int32)) (3 : Int32) (a_wi ((g 0) + 60) 5000 11000) (m_n (3 : Int32))) ga g v7 := r_wku hw_7 (r_e1 hw_5.2.1 e_n7) (r_e2 hw_5.2.1 e_n7 e_v7) rfl (z_ok_trip (z_ok_thr hw.1) _)
    obtain ⟨c8, e_c8⟩ : ∃ z, z = (nI (m_n c7 - 1)) := ⟨_, rfl⟩
    have hP : va_P E.1 vwCl ([(z_W E xa na ma mb ad tx ln n6 c8 f0 1 (m_tripC (upd g 10 (77 : Int32)) (3 : Int32) (a_wi ((g 0) + 60) 5000 11000) (m_n (3 : Int32))) ga g v7).flatten] : List va_W).flatten H := by rw [e_c8]; exact hP
    have hD : va_D A ([(z_W E xa na ma mb ad tx ln n6 c8 f0 1 (m_tripC (upd g 10 (77 : Int32)) (3 : Int32) (a_wi ((g 0) + 60) 5000 11000) (m_n (3 : Int32))) ga g v7).flatten] : List va_W).flatten := by rw [e_c8]; exact hD
    have hw_9 : z_wk ln n6 c8 f0 1 (m_tripC (upd g 10 (77 : Int32)) (3 : Int32) (a_wi ((g 0) + 60) 5000 11000) (m_n (3 : Int32))) ga g v7 := by rw [e_c8]; exact hw_8
    refine lv_if_lt (tgt := 316) hx hb dL_isAhead_286 (by decide) (fun h9 => absurd h9 (r_nn c7)) (fun _ => ?_)
    refine lv_aload_n hx hb dL_isAhead_289 rfl (lv_at hl 5 rfl) ?_
    have L8 := r_lo2 L7 e_c8
    have eu2 : v7 ((m_n n6 + 5) % 6) = (upd g 10 (77 : Int32)) := by rw [r_u1 hw_3.2.1 e_n6, e_v7, r_vn _ _ (r_ne1 hw_3.2.1 e_n6), e_v6, r_vs]
    have ph_290 : ¬ c8 = 0 := r_ne L8
    have hPc : va_P E.1 vwCl ([(z_W E xa na ma mb ad tx ln n6 c8 f0 1 (m_tripC (upd g 10 (77 : Int32)) (3 : Int32) (a_wi ((g 0) + 60) 5000 11000) (m_n (3 : Int32))) ga g v7).flatten] : List va_W).flatten H := zf_sub hP [0] rfl
    have hDc : va_D A ([(z_W E xa na ma mb ad tx ln n6 c8 f0 1 (m_tripC (upd g 10 (77 : Int32)) (3 : Int32) (a_wi ((g 0) + 60) 5000 11000) (m_n (3 : Int32))) ga g v7).flatten] : List va_W).flatten := zf_subD hD [0] (by decide) rfl
    refine z_xmut (Sc := [(z_W E xa na ma mb ad tx ln n6 c8 f0 1 (m_tripC (upd g 10 (77 : Int32)) (3 : Int32) (a_wi ((g 0) + 60) 5000 11000) (m_n (3 : Int32))) ga g v7).flatten]) (Sr := []) (W1 := [(z_W E xa na ma mb ad tx ln n5 (nI (m_n c8 - 1)) f0 1 (upd g 10 (77 : Int32)) ga g v7).flatten]) (vx_runV (As := []) (rest := []) ⟨hx, hb, hml, hown, hts⟩ (c_X9_undoG l E sa hl0 xa na ma mb ad tx ln n6 c8 f0 1 (m_tripC (upd g 10 (77 : Int32)) (3 : Int32) (a_wi ((g 0) + 60) 5000 11000) (m_n (3 : Int32))) ga g v7 hw_9 (r_e1 hw_3.2.1 e_n6) eu2 H.size) (cwV 0 hts gL_isAhead_X9_undo rfl rfl rfl (by decide +kernel) ⟨Nat.le_of_ble_eq_true rfl, Nat.le_of_ble_eq_true rfl⟩) ⟨zPE.blind, va_recv hK.1 hPc (ci := 8) (q0 := 0) rfl rfl, z_preE hK hT hZ hS (zf_free hD hS hA [0] rfl) hPc hDc⟩ rfl rfl hl.1 rfl (lv_room (Nat.le_of_ble_eq_true rfl)) dL_isAhead_290 ⟨Nat.le_of_ble_eq_true rfl, Nat.le_of_ble_eq_true rfl⟩) hP hD hS hA [0] [] rfl rfl (by decide) (by decide) (fun Ex ce q9 H locs hps hP hD hS hce hcv hcl => ?_) (fun H locs _ hP hD hS => ?_)
    · exact (absurd hps.2 ph_290)
    have hP : va_P E.1 vwCl ([(z_W E xa na ma mb ad tx ln n5 (nI (m_n c8 - 1)) f0 1 (upd g 10 (77 : Int32)) ga g v7).flatten] : List va_W).flatten H := hP
    have hD : va_D A ([(z_W E xa na ma mb ad tx ln n5 (nI (m_n c8 - 1)) f0 1 (upd g 10 (77 : Int32)) ga g v7).flatten] : List va_W).flatten := hD
    refine W.widen (k := 9) (n := 54) (by decide) (by decide) ?_
    refine W.eq (g2 := F0 Mi 293 ls [.int (nI (m_n c8 - 1))]) rfl ?_
    have hw_10 : z_wk ln n5 (nI (m_n c8 - 1)) f0 1 (upd g 10 (77 : Int32)) ga g v7 := r_wku hw_9 (r_e1 hw_3.2.1 e_n6) eu2 rfl (z_ok_thr hw.1)
    obtain ⟨c9, e_c9⟩ : ∃ z, z = (nI (m_n c8 - 1)) := ⟨_, rfl⟩
    have hP : va_P E.1 vwCl ([(z_W E xa na ma mb ad tx ln n5 c9 f0 1 (upd g 10 (77 : Int32)) ga g v7).flatten] : List va_W).flatten H := by rw [e_c9]; exact hP
    have hD : va_D A ([(z_W E xa na ma mb ad tx ln n5 c9 f0 1 (upd g 10 (77 : Int32)) ga g v7).flatten] : List va_W).flatten := by rw [e_c9]; exact hD
    have hw_11 : z_wk ln n5 c9 f0 1 (upd g 10 (77 : Int32)) ga g v7 := by rw [e_c9]; exact hw_10
    refine lv_if_lt (tgt := 316) hx hb dL_isAhead_293 (by decide) (fun h9 => absurd h9 (r_nn c8)) (fun _ => ?_)
    refine lv_aload_n hx hb dL_isAhead_296 rfl (lv_at hl 5 rfl) ?_
    have L9 := r_lo2 L8 e_c9
    have eu3 : v7 ((m_n n5 + 5) % 6) = g := by rw [r_u1 hw.2.1 e_n5, e_v7, r_vn _ _ (r_ne2 hw.2.1 e_n5 e_n6), e_v6, r_vn _ _ (r_ne1 hw.2.1 e_n5), e_v5, r_vs]
    have ph_297 : ¬ c9 = 0 := r_ne L9
    have hPc : va_P E.1 vwCl ([(z_W E xa na ma mb ad tx ln n5 c9 f0 1 (upd g 10 (77 : Int32)) ga g v7).flatten] : List va_W).flatten H := zf_sub hP [0] rfl
    have hDc : va_D A ([(z_W E xa na ma mb ad tx ln n5 c9 f0 1 (upd g 10 (77 : Int32)) ga g v7).flatten] : List va_W).flatten := zf_subD hD [0] (by decide) rfl
    refine z_xmut (Sc := [(z_W E xa na ma mb ad tx ln n5 c9 f0 1 (upd g 10 (77 : Int32)) ga g v7).flatten]) (Sr := []) (W1 := [(z_W E xa na ma mb ad tx ln nx (nI (m_n c9 - 1)) f0 1 g ga g v7).flatten]) (vx_runV (As := []) (rest := []) ⟨hx, hb, hml, hown, hts⟩ (c_X9_undoG l E sa hl0 xa na ma mb ad tx ln n5 c9 f0 1 (upd g 10 (77 : Int32)) ga g v7 hw_11 (r_e1 hw.2.1 e_n5) eu3 H.size) (cwV 0 hts gL_isAhead_X9_undo rfl rfl rfl (by decide +kernel) ⟨Nat.le_of_ble_eq_true rfl, Nat.le_of_ble_eq_true rfl⟩) ⟨zPE.blind, va_recv hK.1 hPc (ci := 8) (q0 := 0) rfl rfl, z_preE hK hT hZ hS (zf_free hD hS hA [0] rfl) hPc hDc⟩ rfl rfl hl.1 rfl (lv_room (Nat.le_of_ble_eq_true rfl)) dL_isAhead_297 ⟨Nat.le_of_ble_eq_true rfl, Nat.le_of_ble_eq_true rfl⟩) hP hD hS hA [0] [] rfl rfl (by decide) (by decide) (fun Ex ce q9 H locs hps hP hD hS hce hcv hcl => ?_) (fun H locs _ hP hD hS => ?_)
    · exact (absurd hps.2 ph_297)
    have hP : va_P E.1 vwCl ([(z_W E xa na ma mb ad tx ln nx (nI (m_n c9 - 1)) f0 1 g ga g v7).flatten] : List va_W).flatten H := hP
    have hD : va_D A ([(z_W E xa na ma mb ad tx ln nx (nI (m_n c9 - 1)) f0 1 g ga g v7).flatten] : List va_W).flatten := hD
    refine W.widen (k := 10) (n := 60) (by decide) (by decide) ?_
    refine W.eq (g2 := F0 Mi 300 ls [.int (nI (m_n c9 - 1))]) rfl ?_
    have hw_12 : z_wk ln nx (nI (m_n c9 - 1)) f0 1 g ga g v7 := r_wku hw_11 (r_e1 hw.2.1 e_n5) eu3 rfl hw.1
    obtain ⟨c10, e_c10⟩ : ∃ z, z = (nI (m_n c9 - 1)) := ⟨_, rfl⟩
    have hP : va_P E.1 vwCl ([(z_W E xa na ma mb ad tx ln nx c10 f0 1 g ga g v7).flatten] : List va_W).flatten H := by rw [e_c10]; exact hP
    have hD : va_D A ([(z_W E xa na ma mb ad tx ln nx c10 f0 1 g ga g v7).flatten] : List va_W).flatten := by rw [e_c10]; exact hD
    have hw_13 : z_wk ln nx c10 f0 1 g ga g v7 := by rw [e_c10]; exact hw_12
    refine lv_if_lt (tgt := 316) hx hb dL_isAhead_300 (by decide) (fun h9 => absurd h9 (r_nn c9)) (fun _ => ?_)
    refine lv_aload_n hx hb dL_isAhead_303 rfl (lv_at hl 5 rfl) ?_
    have hPc : va_P E.1 vwCl ([(z_W E xa na ma mb ad tx ln nx c10 f0 1 g ga g v7).flatten] : List va_W).flatten H := zf_sub hP [0] rfl
    refine z_rdv (va_runV (As := []) (rest := []) ⟨hx, hb, hml, hown, hts⟩ (c_X9_digest l E xa na ma mb ad tx ln nx c10 f0 1 g ga g v7 hw_13) (cwV 0 hts gL_isAhead_X9_digest rfl rfl rfl (by decide +kernel) ⟨Nat.le_of_ble_eq_true rfl, Nat.le_of_ble_eq_true rfl⟩) ⟨zPr.blind, va_recv hK.1 hPc (ci := 8) (q0 := 0) rfl rfl, z_prer hK hPc⟩ rfl rfl hl.1 rfl (lv_room (Nat.le_of_ble_eq_true rfl)) dL_isAhead_304 ⟨Nat.le_of_ble_eq_true rfl, Nat.le_of_ble_eq_true rfl⟩) ?_
    refine W.eq (g2 := F0 Mi 307 ls [.long (m_dg g)]) rfl ?_
    refine lv_lload_n hx hb dL_isAhead_307 rfl (lv_at hl 4 rfl) ?_
    refine W.lcmp hx hb dL_isAhead_308 ?_
    refine lv_if_ne (tgt := 316) hx hb dL_isAhead_309 (by decide) (fun h9 => absurd (z_lcs _) h9) (fun _ => ?_)
    refine lv_iconst (v := 1) hx hb dL_isAhead_312 (by decide) ?_
    refine lv_goto (tgt := 317) hx hb dL_isAhead_313 (by decide) ?_
    refine W.widen (k := 16) (n := 96) (by decide) (by decide) ?_
    refine vx_ret ?_
    exact W.zret (v := 1) hx hb hr rfl (z_endy (c10, v7) hw_13 hP hD hS rfl) hS.2.2 dL_isAhead_317 hlocks
  · refine lv_aload_n hx hb dL_isAhead_0 rfl (lv_at hl 0 rfl) ?_
    have hPc : va_P E.1 vwCl ([(z_W E xa na ma mb ad tx ln nx ct f0 f1 g ga gb v).flatten] : List va_W).flatten H := zf_sub hP [0] rfl
    refine z_rdv (va_runV (As := []) (rest := []) ⟨hx, hb, hml, hown, hts⟩ (c_X9_digest l E xa na ma mb ad tx ln nx ct f0 f1 g ga gb v hw) (cwV 0 hts gL_isAhead_X9_digest rfl rfl rfl (by decide +kernel) ⟨Nat.le_of_ble_eq_true rfl, Nat.le_of_ble_eq_true rfl⟩) ⟨zPr.blind, va_recv hK.1 hPc (ci := 8) (q0 := 0) rfl rfl, z_prer hK hPc⟩ rfl rfl hl.1 rfl (lv_room (Nat.le_of_ble_eq_true rfl)) dL_isAhead_1 ⟨Nat.le_of_ble_eq_true rfl, Nat.le_of_ble_eq_true rfl⟩) ?_
    refine W.eq (g2 := F0 Mi 4 ls [.long (m_dg g)]) rfl ?_
    refine lv_lstore_n (lv' := [(2, .long (m_dg g)), (0, .ref (xa 0)), (1, .int x)]) hx hb dL_isAhead_4 rfl hl (by decide) rfl (fun ls hl => ?_)
    refine lv_aload_n hx hb dL_isAhead_5 rfl (lv_at hl 1 rfl) ?_
    refine lv_iload_n hx hb dL_isAhead_6 rfl (lv_at hl 2 rfl) ?_
    have ph_7 : 1 ≤ x ∧ x ≤ 20 := ⟨by rw [hxe]; exact nI_le (a := 1) he1 (by omega), by rw [hxe]; exact nI_le (b := 20) he2 (by decide)⟩
    have hPc : va_P E.1 vwCl ([(z_W E xa na ma mb ad tx ln nx ct f0 f1 g ga gb v).flatten] : List va_W).flatten H := zf_sub hP [0] rfl
    have hDc : va_D A ([(z_W E xa na ma mb ad tx ln nx ct f0 f1 g ga gb v).flatten] : List va_W).flatten := zf_subD hD [0] (by decide) rfl
    refine z_xmut (Sc := [(z_W E xa na ma mb ad tx ln nx ct f0 f1 g ga gb v).flatten]) (Sr := []) (W1 := [(z_W E xa na ma mb ad tx ln nx ct f0 f1 g ga gb v).flatten]) (vx_runV (As := [.int x]) (rest := []) ⟨hx, hb, hml, hown, hts⟩ (c_X9_minutesToAlarm l E sa hl0 xa na ma mb ad tx ln nx ct f0 f1 g ga gb v hw x H.size) (cwV 1 hts gL_isAhead_X9_minutesToAlarm rfl rfl rfl (by decide +kernel) ⟨Nat.le_of_ble_eq_true rfl, Nat.le_of_ble_eq_true rfl⟩) ⟨zPE.blind, va_recv hK.1 hPc (ci := 8) (q0 := 0) rfl rfl, z_preE hK hT hZ hS (zf_free hD hS hA [0] rfl) hPc hDc⟩ rfl rfl hl.1 rfl (lv_room (Nat.le_of_ble_eq_true rfl)) dL_isAhead_7 ⟨Nat.le_of_ble_eq_true rfl, Nat.le_of_ble_eq_true rfl⟩) hP hD hS hA [0] [] rfl rfl (by decide) (by decide) (fun Ex ce q9 H locs hps hP hD hS hce hcv hcl => ?_) (fun H locs _ hP hD hS => ?_)
    · exact (absurd ph_7 hps.2)
    have hP : va_P E.1 vwCl ([(z_W E xa na ma mb ad tx ln nx ct f0 f1 g ga gb v).flatten] : List va_W).flatten H := hP
    have hD : va_D A ([(z_W E xa na ma mb ad tx ln nx ct f0 f1 g ga gb v).flatten] : List va_W).flatten := hD
    refine W.widen (k := 1) (n := 6) (by decide) (by decide) ?_
    refine W.eq (g2 := F0 Mi 10 ls [.int (m_muC g x)]) rfl ?_
    refine z_topi (y := 0) ek ?_
    refine lv_istore (lv' := [(4, .int 0), (2, .long (m_dg g)), (0, .ref (xa 0)), (1, .int x)]) hx hb dL_isAhead_10 hl (by decide) rfl (fun ls hl => ?_)
    refine lv_aload_n hx hb dL_isAhead_12 rfl (lv_at hl 2 rfl) ?_
    have hPc : va_P E.1 vwCl ([(z_W E xa na ma mb ad tx ln nx ct f0 f1 g ga gb v).flatten] : List va_W).flatten H := zf_sub hP [0] rfl
    refine z_rdv (va_runV (As := []) (rest := []) ⟨hx, hb, hml, hown, hts⟩ (c_X9_isStation l E xa na ma mb ad tx ln nx ct f0 f1 g ga gb v hw) (cwV 0 hts gL_isAhead_X9_isStation rfl rfl rfl (by decide +kernel) ⟨Nat.le_of_ble_eq_true rfl, Nat.le_of_ble_eq_true rfl⟩) ⟨zPr.blind, va_recv hK.1 hPc (ci := 8) (q0 := 0) rfl rfl, z_prer hK hPc⟩ rfl rfl hl.1 rfl (lv_room (Nat.le_of_ble_eq_true rfl)) dL_isAhead_13 ⟨Nat.le_of_ble_eq_true rfl, Nat.le_of_ble_eq_true rfl⟩) ?_
    refine W.eq (g2 := F0 Mi 16 ls [.int (g 2)]) rfl ?_
    refine lv_if_ne (tgt := 25) hx hb dL_isAhead_16 (by decide) (fun _ => ?_) (fun h9 => absurd h9 (c2))
    refine lv_iload hx hb dL_isAhead_25 (lv_at hl 0 rfl) ?_
    refine lv_if_ne (tgt := 34) hx hb dL_isAhead_27 (by decide) (fun h9 => absurd ((by decide)) h9) (fun _ => ?_)
    refine lv_iconst (v := 1) hx hb dL_isAhead_30 (by decide) ?_
    refine lv_goto (tgt := 35) hx hb dL_isAhead_31 (by decide) ?_
    refine lv_aload_n hx hb dL_isAhead_35 rfl (lv_at hl 2 rfl) ?_
    have hPc : va_P E.1 vwCl ([(z_W E xa na ma mb ad tx ln nx ct f0 f1 g ga gb v).flatten] : List va_W).flatten H := zf_sub hP [0] rfl
    refine z_rdv (va_runV (As := []) (rest := [.int 1]) ⟨hx, hb, hml, hown, hts⟩ (c_X9_isStation l E xa na ma mb ad tx ln nx ct f0 f1 g ga gb v hw) (cwV 0 hts gL_isAhead_X9_isStation rfl rfl rfl (by decide +kernel) ⟨Nat.le_of_ble_eq_true rfl, Nat.le_of_ble_eq_true rfl⟩) ⟨zPr.blind, va_recv hK.1 hPc (ci := 8) (q0 := 0) rfl rfl, z_prer hK hPc⟩ rfl rfl hl.1 rfl (lv_room (Nat.le_of_ble_eq_true rfl)) dL_isAhead_36 ⟨Nat.le_of_ble_eq_true rfl, Nat.le_of_ble_eq_true rfl⟩) ?_
    refine W.eq (g2 := F0 Mi 39 ls [.int (g 2), .int 1]) rfl ?_
    refine lv_if_eq (tgt := 53) hx hb dL_isAhead_39 (by decide) (fun h9 => absurd h9 (c2)) (fun _ => ?_)
    refine lv_aload_n hx hb dL_isAhead_42 rfl (lv_at hl 2 rfl) ?_
    have hPc : va_P E.1 vwCl ([(z_W E xa na ma mb ad tx ln nx ct f0 f1 g ga gb v).flatten] : List va_W).flatten H := zf_sub hP [0] rfl
    refine z_rdv (va_runV (As := []) (rest := [.int 1]) ⟨hx, hb, hml, hown, hts⟩ (c_X9_isAlarm l E xa na ma mb ad tx ln nx ct f0 f1 g ga gb v hw) (cwV 0 hts gL_isAhead_X9_isAlarm rfl rfl rfl (by decide +kernel) ⟨Nat.le_of_ble_eq_true rfl, Nat.le_of_ble_eq_true rfl⟩) ⟨zPr.blind, va_recv hK.1 hPc (ci := 8) (q0 := 0) rfl rfl, z_prer hK hPc⟩ rfl rfl hl.1 rfl (lv_room (Nat.le_of_ble_eq_true rfl)) dL_isAhead_43 ⟨Nat.le_of_ble_eq_true rfl, Nat.le_of_ble_eq_true rfl⟩) ?_
    refine W.eq (g2 := F0 Mi 46 ls [.int (m_al (m_n (g 14)) (m_log g) (g 11)), .int 1]) rfl ?_
    refine lv_if_eq (tgt := 53) hx hb dL_isAhead_46 (by decide) (fun h9 => absurd h9 (ca)) (fun _ => ?_)
    refine lv_iconst (v := 1) hx hb dL_isAhead_49 (by decide) ?_
    refine lv_goto (tgt := 54) hx hb dL_isAhead_50 (by decide) ?_
    refine lv_icmp_ne (tgt := 61) hx hb dL_isAhead_54 (by decide) (fun h9 => absurd ((by decide)) h9) (fun _ => ?_)
    refine lv_iconst (v := 1) hx hb dL_isAhead_57 (by decide) ?_
    refine lv_goto (tgt := 62) hx hb dL_isAhead_58 (by decide) ?_
    refine lv_istore (lv' := [(5, .int 1), (4, .int 0), (2, .long (m_dg g)), (0, .ref (xa 0)), (1, .int x)]) hx hb dL_isAhead_62 hl (by decide) rfl (fun ls hl => ?_)
    refine lv_aload_n hx hb dL_isAhead_64 rfl (lv_at hl 3 rfl) ?_
    have hPc : va_P E.1 vwCl ([(z_W E xa na ma mb ad tx ln nx ct f0 f1 g ga gb v).flatten] : List va_W).flatten H := zf_sub hP [0] rfl
    refine z_rdv (va_runV (As := []) (rest := []) ⟨hx, hb, hml, hown, hts⟩ (c_X9_pressure l E xa na ma mb ad tx ln nx ct f0 f1 g ga gb v hw) (cwV 0 hts gL_isAhead_X9_pressure rfl rfl rfl (by decide +kernel) ⟨Nat.le_of_ble_eq_true rfl, Nat.le_of_ble_eq_true rfl⟩) ⟨zPr.blind, va_recv hK.1 hPc (ci := 8) (q0 := 0) rfl rfl, z_prer hK hPc⟩ rfl rfl hl.1 rfl (lv_room (Nat.le_of_ble_eq_true rfl)) dL_isAhead_65 ⟨Nat.le_of_ble_eq_true rfl, Nat.le_of_ble_eq_true rfl⟩) ?_
    refine W.eq (g2 := F0 Mi 68 ls [.int (g 0)]) rfl ?_
    refine lv_istore (lv' := [(6, .int (g 0)), (5, .int 1), (4, .int 0), (2, .long (m_dg g)), (0, .ref (xa 0)), (1, .int x)]) hx hb dL_isAhead_68 hl (by decide) rfl (fun ls hl => ?_)
    refine lv_iload hx hb dL_isAhead_70 (lv_at hl 1 rfl) ?_
    refine lv_if_eq (tgt := 184) hx hb dL_isAhead_72 (by decide) (fun h9 => absurd h9 ((by decide))) (fun _ => ?_)
    refine lv_iload hx hb dL_isAhead_75 (lv_at hl 2 rfl) ?_
    refine lv_if_le (tgt := 184) hx hb dL_isAhead_77 (by decide) (fun _ => ?_) (fun h9 => absurd ((by decide)) h9)
    refine lv_aload_n hx hb dL_isAhead_184 rfl (lv_at hl 4 rfl) ?_
    refine lv_iconst (v := 1) hx hb dL_isAhead_185 (by decide) ?_
    have ph_186 : (0 : Int32) ≤ 1 ∧ (1 : Int32) ≤ 1 := ⟨by decide, by decide⟩
    have hPc : va_P E.1 vwCl ([(z_W E xa na ma mb ad tx ln nx ct f0 f1 g ga gb v).flatten] : List va_W).flatten H := zf_sub hP [0] rfl
    have hDc : va_D A ([(z_W E xa na ma mb ad tx ln nx ct f0 f1 g ga gb v).flatten] : List va_W).flatten := zf_subD hD [0] (by decide) rfl
    refine z_xmut (Sc := [(z_W E xa na ma mb ad tx ln nx ct f0 f1 g ga gb v).flatten]) (Sr := []) (W1 := [(z_W E xa na ma mb ad tx ln nx ct f0 1 g ga g v).flatten]) (vx_runV (As := [.int 1]) (rest := []) ⟨hx, hb, hml, hown, hts⟩ (c_X9_store1 l E sa hl0 xa na ma mb ad tx ln nx ct f0 f1 g ga gb v hw H.size) (cwV 1 hts gL_isAhead_X9_store rfl rfl rfl (by decide +kernel) ⟨Nat.le_of_ble_eq_true rfl, Nat.le_of_ble_eq_true rfl⟩) ⟨zPE.blind, va_recv hK.1 hPc (ci := 8) (q0 := 0) rfl rfl, z_preE hK hT hZ hS (zf_free hD hS hA [0] rfl) hPc hDc⟩ rfl rfl hl.1 rfl (lv_room (Nat.le_of_ble_eq_true rfl)) dL_isAhead_186 ⟨Nat.le_of_ble_eq_true rfl, Nat.le_of_ble_eq_true rfl⟩) hP hD hS hA [0] [] rfl rfl (by decide) (by decide) (fun Ex ce q9 H locs hps hP hD hS hce hcv hcl => ?_) (fun H locs _ hP hD hS => ?_)
    · exact (absurd ph_186 hps.2)
    have hP : va_P E.1 vwCl ([(z_W E xa na ma mb ad tx ln nx ct f0 1 g ga g v).flatten] : List va_W).flatten H := hP
    have hD : va_D A ([(z_W E xa na ma mb ad tx ln nx ct f0 1 g ga g v).flatten] : List va_W).flatten := hD
    refine W.widen (k := 2) (n := 12) (by decide) (by decide) ?_
    refine W.eq (g2 := F0 Mi 189 ls [.int (m_std (g 0) - m_std (g 1))]) rfl ?_
    have hw_14 : z_wk ln nx ct f0 1 g ga g v := z_wk_st1 hw
    refine lv_istore (lv' := [(7, .int (m_std (g 0) - m_std (g 1))), (6, .int (g 0)), (5, .int 1), (4, .int 0), (2, .long (m_dg g)), (0, .ref (xa 0)), (1, .int x)]) hx hb dL_isAhead_189 hl (by decide) rfl (fun ls hl => ?_)
    refine lv_iload hx hb dL_isAhead_191 (lv_at hl 2 rfl) ?_
    refine lv_if_eq (tgt := 274) hx hb dL_isAhead_193 (by decide) (fun h9 => absurd h9 ((by decide))) (fun _ => ?_)
    refine lv_iload hx hb dL_isAhead_196 (lv_at hl 0 rfl) ?_
    refine lv_aload_n hx hb dL_isAhead_198 rfl (lv_at hl 5 rfl) ?_
    have hPc : va_P E.1 vwCl ([(z_W E xa na ma mb ad tx ln nx ct f0 1 g ga g v).flatten] : List va_W).flatten H := zf_sub hP [0] rfl
    refine z_rdv (va_runV (As := []) (rest := [.int (m_std (g 0) - m_std (g 1))]) ⟨hx, hb, hml, hown, hts⟩ (c_X9_altitude l E xa na ma mb ad tx ln nx ct f0 1 g ga g v hw_14) (cwV 0 hts gL_isAhead_X9_altitude rfl rfl rfl (by decide +kernel) ⟨Nat.le_of_ble_eq_true rfl, Nat.le_of_ble_eq_true rfl⟩) ⟨zPr.blind, va_recv hK.1 hPc (ci := 8) (q0 := 0) rfl rfl, z_prer hK hPc⟩ rfl rfl hl.1 rfl (lv_room (Nat.le_of_ble_eq_true rfl)) dL_isAhead_199 ⟨Nat.le_of_ble_eq_true rfl, Nat.le_of_ble_eq_true rfl⟩) ?_
    refine W.eq (g2 := F0 Mi 202 ls [.int (m_std (g 0) - m_std (g 1)), .int (m_std (g 0) - m_std (g 1))]) rfl ?_
    refine lv_icmp_ne (tgt := 274) hx hb dL_isAhead_202 (by decide) (fun h9 => absurd (rfl) h9) (fun _ => ?_)
    refine lv_aload_n hx hb dL_isAhead_205 rfl (lv_at hl 5 rfl) ?_
    have hPc : va_P E.1 vwCl ([(z_W E xa na ma mb ad tx ln nx ct f0 1 g ga g v).flatten] : List va_W).flatten H := zf_sub hP [0] rfl
    refine z_rdv (va_runV (As := []) (rest := []) ⟨hx, hb, hml, hown, hts⟩ (c_X9_digest l E xa na ma mb ad tx ln nx ct f0 1 g ga g v hw_14) (cwV 0 hts gL_isAhead_X9_digest rfl rfl rfl (by decide +kernel) ⟨Nat.le_of_ble_eq_true rfl, Nat.le_of_ble_eq_true rfl⟩) ⟨zPr.blind, va_recv hK.1 hPc (ci := 8) (q0 := 0) rfl rfl, z_prer hK hPc⟩ rfl rfl hl.1 rfl (lv_room (Nat.le_of_ble_eq_true rfl)) dL_isAhead_206 ⟨Nat.le_of_ble_eq_true rfl, Nat.le_of_ble_eq_true rfl⟩) ?_
    refine W.eq (g2 := F0 Mi 209 ls [.long (m_dg g)]) rfl ?_
    refine lv_lload_n hx hb dL_isAhead_209 rfl (lv_at hl 4 rfl) ?_
    refine W.lcmp hx hb dL_isAhead_210 ?_
    refine lv_if_ne (tgt := 274) hx hb dL_isAhead_211 (by decide) (fun h9 => absurd (z_lcs _) h9) (fun _ => ?_)
    refine lv_aload_n hx hb dL_isAhead_214 rfl (lv_at hl 5 rfl) ?_
    refine lv_bipush (v := 77) hx hb dL_isAhead_215 (by decide) ?_
    have ph_217 : 10 ≤ (77 : Int32) ∧ (77 : Int32) ≤ 500 := ⟨by decide, by decide⟩
    have hPc : va_P E.1 vwCl ([(z_W E xa na ma mb ad tx ln nx ct f0 1 g ga g v).flatten] : List va_W).flatten H := zf_sub hP [0] rfl
    have hDc : va_D A ([(z_W E xa na ma mb ad tx ln nx ct f0 1 g ga g v).flatten] : List va_W).flatten := zf_subD hD [0] (by decide) rfl
    refine z_xmut (Sc := [(z_W E xa na ma mb ad tx ln nx ct f0 1 g ga g v).flatten]) (Sr := []) (W1 := [(z_W E xa na ma mb ad tx ln (nI ((m_n nx + 1) % 6)) (nI (if m_n ct < 6 then m_n ct + 1 else 6)) f0 1 (upd g 10 (77 : Int32)) ga g (va_up v (m_n nx) g)).flatten]) (vx_runV (As := [.int 77]) (rest := []) ⟨hx, hb, hml, hown, hts⟩ (c_X9_setThreshold l E sa hl0 xa na ma mb ad tx ln nx ct f0 1 g ga g v hw_14 77 H.size) (cwV 1 hts gL_isAhead_X9_setThreshold rfl rfl rfl (by decide +kernel) ⟨Nat.le_of_ble_eq_true rfl, Nat.le_of_ble_eq_true rfl⟩) ⟨zPE.blind, va_recv hK.1 hPc (ci := 8) (q0 := 0) rfl rfl, z_preE hK hT hZ hS (zf_free hD hS hA [0] rfl) hPc hDc⟩ rfl rfl hl.1 rfl (lv_room (Nat.le_of_ble_eq_true rfl)) dL_isAhead_217 ⟨Nat.le_of_ble_eq_true rfl, Nat.le_of_ble_eq_true rfl⟩) hP hD hS hA [0] [] rfl rfl (by decide) (by decide) (fun Ex ce q9 H locs hps hP hD hS hce hcv hcl => ?_) (fun H locs _ hP hD hS => ?_)
    · exact (absurd ph_217 hps.2)
    have hP : va_P E.1 vwCl ([(z_W E xa na ma mb ad tx ln (nI ((m_n nx + 1) % 6)) (nI (if m_n ct < 6 then m_n ct + 1 else 6)) f0 1 (upd g 10 (77 : Int32)) ga g (va_up v (m_n nx) g)).flatten] : List va_W).flatten H := hP
    have hD : va_D A ([(z_W E xa na ma mb ad tx ln (nI ((m_n nx + 1) % 6)) (nI (if m_n ct < 6 then m_n ct + 1 else 6)) f0 1 (upd g 10 (77 : Int32)) ga g (va_up v (m_n nx) g)).flatten] : List va_W).flatten := hD
    refine W.widen (k := 3) (n := 18) (by decide) (by decide) ?_
    refine W.eq (g2 := F0 Mi 220 ls [.int (g 10)]) rfl ?_
    have hw_15 : z_wk ln (nI ((m_n nx + 1) % 6)) (nI (if m_n ct < 6 then m_n ct + 1 else 6)) f0 1 (upd g 10 (77 : Int32)) ga g (va_up v (m_n nx) g) := z_wk_save hw_14 (show z_ok (upd g 10 (77 : Int32)) from z_ok_thr hw.1)
    obtain ⟨n5, e_n5⟩ : ∃ z, z = (nI ((m_n nx + 1) % 6)) := ⟨_, rfl⟩
    obtain ⟨c5, e_c5⟩ : ∃ z, z = (nI (if m_n ct < 6 then m_n ct + 1 else 6)) := ⟨_, rfl⟩
    obtain ⟨v5, e_v5⟩ : ∃ z, z = (va_up v (m_n nx) g) := ⟨_, rfl⟩
    have hP : va_P E.1 vwCl ([(z_W E xa na ma mb ad tx ln n5 c5 f0 1 (upd g 10 (77 : Int32)) ga g v5).flatten] : List va_W).flatten H := by rw [e_n5, e_c5, e_v5]; exact hP
    have hD : va_D A ([(z_W E xa na ma mb ad tx ln n5 c5 f0 1 (upd g 10 (77 : Int32)) ga g v5).flatten] : List va_W).flatten := by rw [e_n5, e_c5, e_v5]; exact hD
    have hw_16 : z_wk ln n5 c5 f0 1 (upd g 10 (77 : Int32)) ga g v5 := by rw [e_n5, e_c5, e_v5]; exact hw_15
    refine lv_bipush (v := 10) hx hb dL_isAhead_220 (by decide) ?_
    refine lv_icmp_lt (tgt := 274) hx hb dL_isAhead_222 (by decide) (fun h9 => absurd h9 (h_10 hg)) (fun _ => ?_)
    refine lv_aload_n hx hb dL_isAhead_225 rfl (lv_at hl 5 rfl) ?_
    refine lv_iconst (v := 3) hx hb dL_isAhead_226 (by decide) ?_
    refine lv_iload hx hb dL_isAhead_227 (lv_at hl 1 rfl) ?_
    refine lv_bipush (v := 60) hx hb dL_isAhead_229 (by decide) ?_
    refine lv_iadd hx hb dL_isAhead_231 ?_
    refine lv_sipush (v := 5000) hx hb dL_isAhead_232 (by decide) ?_
    refine lv_sipush (v := 11000) hx hb dL_isAhead_235 (by decide) ?_
    refine z_rdv (va_runS (As := [.int ((g 0) + 60), .int 5000, .int 11000]) (rest := [.int 3, .ref (xa 0)]) ⟨hx, hb, hml, hown, hts⟩ (c_L_within l E ((g 0) + 60) 5000 11000) (va_cwS 3 hts gL_isAhead_L_within rfl rfl rfl (by decide +kernel) ⟨Nat.le_of_ble_eq_true rfl, Nat.le_of_ble_eq_true rfl⟩) ⟨zPr.blind, z_prer hK zP_nil⟩ rfl rfl hl.1 rfl (lv_room (Nat.le_of_ble_eq_true rfl)) dL_isAhead_238 ⟨Nat.le_of_ble_eq_true rfl, Nat.le_of_ble_eq_true rfl⟩) ?_
    refine W.eq (g2 := F0 Mi 241 ls [.int (a_wi ((g 0) + 60) 5000 11000), .int 3, .ref (xa 0)]) rfl ?_
    have ph_241 : (1 ≤ (3 : Int32) ∧ (3 : Int32) ≤ 120) ∧ (5000 ≤ (a_wi ((g 0) + 60) 5000 11000) ∧ (a_wi ((g 0) + 60) 5000 11000) ≤ 11000) := ⟨⟨by decide, by decide⟩, a_wi_r (by decide)⟩
    have hPc : va_P E.1 vwCl ([(z_W E xa na ma mb ad tx ln n5 c5 f0 1 (upd g 10 (77 : Int32)) ga g v5).flatten] : List va_W).flatten H := zf_sub hP [0] rfl
    have hDc : va_D A ([(z_W E xa na ma mb ad tx ln n5 c5 f0 1 (upd g 10 (77 : Int32)) ga g v5).flatten] : List va_W).flatten := zf_subD hD [0] (by decide) rfl
    refine z_xmut (Sc := [(z_W E xa na ma mb ad tx ln n5 c5 f0 1 (upd g 10 (77 : Int32)) ga g v5).flatten]) (Sr := []) (W1 := [(z_W E xa na ma mb ad tx ln (nI ((m_n n5 + 1) % 6)) (nI (if m_n c5 < 6 then m_n c5 + 1 else 6)) f0 1 (m_tripC (upd g 10 (77 : Int32)) (3 : Int32) (a_wi ((g 0) + 60) 5000 11000) (m_n (3 : Int32))) ga g (va_up v5 (m_n n5) (upd g 10 (77 : Int32)))).flatten]) (vx_runV (As := [.int 3, .int (a_wi ((g 0) + 60) 5000 11000)]) (rest := []) ⟨hx, hb, hml, hown, hts⟩ (c_X9_travel l E sa hl0 xa na ma mb ad tx ln n5 c5 f0 1 (upd g 10 (77 : Int32)) ga g v5 hw_16 3 (a_wi ((g 0) + 60) 5000 11000) H.size) (cwV 2 hts gL_isAhead_X9_travel rfl rfl rfl (by decide +kernel) ⟨Nat.le_of_ble_eq_true rfl, Nat.le_of_ble_eq_true rfl⟩) ⟨zPE.blind, va_recv hK.1 hPc (ci := 8) (q0 := 0) rfl rfl, z_preE hK hT hZ hS (zf_free hD hS hA [0] rfl) hPc hDc⟩ rfl rfl hl.1 rfl (lv_room (Nat.le_of_ble_eq_true rfl)) dL_isAhead_241 ⟨Nat.le_of_ble_eq_true rfl, Nat.le_of_ble_eq_true rfl⟩) hP hD hS hA [0] [] rfl rfl (by decide) (by decide) (fun Ex ce q9 H locs hps hP hD hS hce hcv hcl => ?_) (fun H locs _ hP hD hS => ?_)
    · exact (absurd ph_241 hps.2)
    have hP : va_P E.1 vwCl ([(z_W E xa na ma mb ad tx ln (nI ((m_n n5 + 1) % 6)) (nI (if m_n c5 < 6 then m_n c5 + 1 else 6)) f0 1 (m_tripC (upd g 10 (77 : Int32)) (3 : Int32) (a_wi ((g 0) + 60) 5000 11000) (m_n (3 : Int32))) ga g (va_up v5 (m_n n5) (upd g 10 (77 : Int32)))).flatten] : List va_W).flatten H := hP
    have hD : va_D A ([(z_W E xa na ma mb ad tx ln (nI ((m_n n5 + 1) % 6)) (nI (if m_n c5 < 6 then m_n c5 + 1 else 6)) f0 1 (m_tripC (upd g 10 (77 : Int32)) (3 : Int32) (a_wi ((g 0) + 60) 5000 11000) (m_n (3 : Int32))) ga g (va_up v5 (m_n n5) (upd g 10 (77 : Int32)))).flatten] : List va_W).flatten := hD
    refine W.widen (k := 5) (n := 30) (by decide) (by decide) ?_
    refine W.eq (g2 := F0 Mi 244 ls [.int (m_std ((m_tripC (upd g 10 (77 : Int32)) (3 : Int32) (a_wi ((g 0) + 60) 5000 11000) (m_n (3 : Int32))) 0) - m_std ((m_tripC (upd g 10 (77 : Int32)) (3 : Int32) (a_wi ((g 0) + 60) 5000 11000) (m_n (3 : Int32))) 1))]) rfl ?_
    have hw_17 : z_wk ln (nI ((m_n n5 + 1) % 6)) (nI (if m_n c5 < 6 then m_n c5 + 1 else 6)) f0 1 (m_tripC (upd g 10 (77 : Int32)) (3 : Int32) (a_wi ((g 0) + 60) 5000 11000) (m_n (3 : Int32))) ga g (va_up v5 (m_n n5) (upd g 10 (77 : Int32))) := z_wk_save hw_16 (show z_ok (m_tripC (upd g 10 (77 : Int32)) (3 : Int32) (a_wi ((g 0) + 60) 5000 11000) (m_n (3 : Int32))) from z_ok_trip (z_ok_thr hw.1) _)
    obtain ⟨n6, e_n6⟩ : ∃ z, z = (nI ((m_n n5 + 1) % 6)) := ⟨_, rfl⟩
    obtain ⟨c6, e_c6⟩ : ∃ z, z = (nI (if m_n c5 < 6 then m_n c5 + 1 else 6)) := ⟨_, rfl⟩
    obtain ⟨v6, e_v6⟩ : ∃ z, z = (va_up v5 (m_n n5) (upd g 10 (77 : Int32))) := ⟨_, rfl⟩
    have hP : va_P E.1 vwCl ([(z_W E xa na ma mb ad tx ln n6 c6 f0 1 (m_tripC (upd g 10 (77 : Int32)) (3 : Int32) (a_wi ((g 0) + 60) 5000 11000) (m_n (3 : Int32))) ga g v6).flatten] : List va_W).flatten H := by rw [e_n6, e_c6, e_v6]; exact hP
    have hD : va_D A ([(z_W E xa na ma mb ad tx ln n6 c6 f0 1 (m_tripC (upd g 10 (77 : Int32)) (3 : Int32) (a_wi ((g 0) + 60) 5000 11000) (m_n (3 : Int32))) ga g v6).flatten] : List va_W).flatten := by rw [e_n6, e_c6, e_v6]; exact hD
    have hw_18 : z_wk ln n6 c6 f0 1 (m_tripC (upd g 10 (77 : Int32)) (3 : Int32) (a_wi ((g 0) + 60) 5000 11000) (m_n (3 : Int32))) ga g v6 := by rw [e_n6, e_c6, e_v6]; exact hw_17
    refine lv_aload_n hx hb dL_isAhead_244 rfl (lv_at hl 5 rfl) ?_
    have hPc : va_P E.1 vwCl ([(z_W E xa na ma mb ad tx ln n6 c6 f0 1 (m_tripC (upd g 10 (77 : Int32)) (3 : Int32) (a_wi ((g 0) + 60) 5000 11000) (m_n (3 : Int32))) ga g v6).flatten] : List va_W).flatten H := zf_sub hP [0] rfl
    refine z_rdv (va_runV (As := []) (rest := [.int (m_std ((m_tripC (upd g 10 (77 : Int32)) (3 : Int32) (a_wi ((g 0) + 60) 5000 11000) (m_n (3 : Int32))) 0) - m_std ((m_tripC (upd g 10 (77 : Int32)) (3 : Int32) (a_wi ((g 0) + 60) 5000 11000) (m_n (3 : Int32))) 1))]) ⟨hx, hb, hml, hown, hts⟩ (c_X9_altitude l E xa na ma mb ad tx ln n6 c6 f0 1 (m_tripC (upd g 10 (77 : Int32)) (3 : Int32) (a_wi ((g 0) + 60) 5000 11000) (m_n (3 : Int32))) ga g v6 hw_18) (cwV 0 hts gL_isAhead_X9_altitude rfl rfl rfl (by decide +kernel) ⟨Nat.le_of_ble_eq_true rfl, Nat.le_of_ble_eq_true rfl⟩) ⟨zPr.blind, va_recv hK.1 hPc (ci := 8) (q0 := 0) rfl rfl, z_prer hK hPc⟩ rfl rfl hl.1 rfl (lv_room (Nat.le_of_ble_eq_true rfl)) dL_isAhead_245 ⟨Nat.le_of_ble_eq_true rfl, Nat.le_of_ble_eq_true rfl⟩) ?_
    refine W.eq (g2 := F0 Mi 248 ls [.int (m_std ((m_tripC (upd g 10 (77 : Int32)) (3 : Int32) (a_wi ((g 0) + 60) 5000 11000) (m_n (3 : Int32))) 0) - m_std ((m_tripC (upd g 10 (77 : Int32)) (3 : Int32) (a_wi ((g 0) + 60) 5000 11000) (m_n (3 : Int32))) 1)), .int (m_std ((m_tripC (upd g 10 (77 : Int32)) (3 : Int32) (a_wi ((g 0) + 60) 5000 11000) (m_n (3 : Int32))) 0) - m_std ((m_tripC (upd g 10 (77 : Int32)) (3 : Int32) (a_wi ((g 0) + 60) 5000 11000) (m_n (3 : Int32))) 1))]) rfl ?_
    refine lv_icmp_ne (tgt := 274) hx hb dL_isAhead_248 (by decide) (fun h9 => absurd (rfl) h9) (fun _ => ?_)
    refine lv_aload_n hx hb dL_isAhead_251 rfl (lv_at hl 5 rfl) ?_
    refine lv_iconst (v := 1) hx hb dL_isAhead_252 (by decide) ?_
    have ph_253 : ((0 : Int32) ≤ 1 ∧ (1 : Int32) ≤ 1) ∧ ¬ (1 : Int32) = 0 := ⟨⟨by decide, by decide⟩, by decide⟩
    have hPc : va_P E.1 vwCl ([(z_W E xa na ma mb ad tx ln n6 c6 f0 1 (m_tripC (upd g 10 (77 : Int32)) (3 : Int32) (a_wi ((g 0) + 60) 5000 11000) (m_n (3 : Int32))) ga g v6).flatten] : List va_W).flatten H := zf_sub hP [0] rfl
    have hDc : va_D A ([(z_W E xa na ma mb ad tx ln n6 c6 f0 1 (m_tripC (upd g 10 (77 : Int32)) (3 : Int32) (a_wi ((g 0) + 60) 5000 11000) (m_n (3 : Int32))) ga g v6).flatten] : List va_W).flatten := zf_subD hD [0] (by decide) rfl
    refine z_xmut (Sc := [(z_W E xa na ma mb ad tx ln n6 c6 f0 1 (m_tripC (upd g 10 (77 : Int32)) (3 : Int32) (a_wi ((g 0) + 60) 5000 11000) (m_n (3 : Int32))) ga g v6).flatten]) (Sr := []) (W1 := [(z_W E xa na ma mb ad tx ln (nI ((m_n n6 + 1) % 6)) (nI (if m_n c6 < 6 then m_n c6 + 1 else 6)) f0 1 g ga g (va_up v6 (m_n n6) (m_tripC (upd g 10 (77 : Int32)) (3 : Int32) (a_wi ((g 0) + 60) 5000 11000) (m_n (3 : Int32))))).flatten]) (vx_runV (As := [.int 1]) (rest := []) ⟨hx, hb, hml, hown, hts⟩ (c_X9_recall1 l E sa hl0 xa na ma mb ad tx ln n6 c6 f0 1 (m_tripC (upd g 10 (77 : Int32)) (3 : Int32) (a_wi ((g 0) + 60) 5000 11000) (m_n (3 : Int32))) ga g v6 hw_18 H.size) (cwV 1 hts gL_isAhead_X9_recall rfl rfl rfl (by decide +kernel) ⟨Nat.le_of_ble_eq_true rfl, Nat.le_of_ble_eq_true rfl⟩) ⟨zPE.blind, va_recv hK.1 hPc (ci := 8) (q0 := 0) rfl rfl, z_preE hK hT hZ hS (zf_free hD hS hA [0] rfl) hPc hDc⟩ rfl rfl hl.1 rfl (lv_room (Nat.le_of_ble_eq_true rfl)) dL_isAhead_253 ⟨Nat.le_of_ble_eq_true rfl, Nat.le_of_ble_eq_true rfl⟩) hP hD hS hA [0] [] rfl rfl (by decide) (by decide) (fun Ex ce q9 H locs hps hP hD hS hce hcv hcl => ?_) (fun H locs _ hP hD hS => ?_)
    · exact (hps.elim (fun z => absurd ph_253.1 z.2) (fun z => absurd z.2.2 ph_253.2))
    have hP : va_P E.1 vwCl ([(z_W E xa na ma mb ad tx ln (nI ((m_n n6 + 1) % 6)) (nI (if m_n c6 < 6 then m_n c6 + 1 else 6)) f0 1 g ga g (va_up v6 (m_n n6) (m_tripC (upd g 10 (77 : Int32)) (3 : Int32) (a_wi ((g 0) + 60) 5000 11000) (m_n (3 : Int32))))).flatten] : List va_W).flatten H := hP
    have hD : va_D A ([(z_W E xa na ma mb ad tx ln (nI ((m_n n6 + 1) % 6)) (nI (if m_n c6 < 6 then m_n c6 + 1 else 6)) f0 1 g ga g (va_up v6 (m_n n6) (m_tripC (upd g 10 (77 : Int32)) (3 : Int32) (a_wi ((g 0) + 60) 5000 11000) (m_n (3 : Int32))))).flatten] : List va_W).flatten := hD
    refine W.widen (k := 7) (n := 42) (by decide) (by decide) ?_
    refine W.eq (g2 := F0 Mi 256 ls [.int (m_std (g 0) - m_std (g 1))]) rfl ?_
    have hw_19 : z_wk ln (nI ((m_n n6 + 1) % 6)) (nI (if m_n c6 < 6 then m_n c6 + 1 else 6)) f0 1 g ga g (va_up v6 (m_n n6) (m_tripC (upd g 10 (77 : Int32)) (3 : Int32) (a_wi ((g 0) + 60) 5000 11000) (m_n (3 : Int32)))) := z_wk_save hw_18 (show z_ok g from hw.1)
    obtain ⟨n7, e_n7⟩ : ∃ z, z = (nI ((m_n n6 + 1) % 6)) := ⟨_, rfl⟩
    obtain ⟨c7, e_c7⟩ : ∃ z, z = (nI (if m_n c6 < 6 then m_n c6 + 1 else 6)) := ⟨_, rfl⟩
    obtain ⟨v7, e_v7⟩ : ∃ z, z = (va_up v6 (m_n n6) (m_tripC (upd g 10 (77 : Int32)) (3 : Int32) (a_wi ((g 0) + 60) 5000 11000) (m_n (3 : Int32)))) := ⟨_, rfl⟩
    have hP : va_P E.1 vwCl ([(z_W E xa na ma mb ad tx ln n7 c7 f0 1 g ga g v7).flatten] : List va_W).flatten H := by rw [e_n7, e_c7, e_v7]; exact hP
    have hD : va_D A ([(z_W E xa na ma mb ad tx ln n7 c7 f0 1 g ga g v7).flatten] : List va_W).flatten := by rw [e_n7, e_c7, e_v7]; exact hD
    have hw_20 : z_wk ln n7 c7 f0 1 g ga g v7 := by rw [e_n7, e_c7, e_v7]; exact hw_19
    refine lv_iload hx hb dL_isAhead_256 (lv_at hl 0 rfl) ?_
    refine lv_icmp_ne (tgt := 274) hx hb dL_isAhead_258 (by decide) (fun h9 => absurd (rfl) h9) (fun _ => ?_)
    refine lv_aload_n hx hb dL_isAhead_261 rfl (lv_at hl 5 rfl) ?_
    have hPc : va_P E.1 vwCl ([(z_W E xa na ma mb ad tx ln n7 c7 f0 1 g ga g v7).flatten] : List va_W).flatten H := zf_sub hP [0] rfl
    refine z_rdv (va_runV (As := []) (rest := []) ⟨hx, hb, hml, hown, hts⟩ (c_X9_digest l E xa na ma mb ad tx ln n7 c7 f0 1 g ga g v7 hw_20) (cwV 0 hts gL_isAhead_X9_digest rfl rfl rfl (by decide +kernel) ⟨Nat.le_of_ble_eq_true rfl, Nat.le_of_ble_eq_true rfl⟩) ⟨zPr.blind, va_recv hK.1 hPc (ci := 8) (q0 := 0) rfl rfl, z_prer hK hPc⟩ rfl rfl hl.1 rfl (lv_room (Nat.le_of_ble_eq_true rfl)) dL_isAhead_262 ⟨Nat.le_of_ble_eq_true rfl, Nat.le_of_ble_eq_true rfl⟩) ?_
    refine W.eq (g2 := F0 Mi 265 ls [.long (m_dg g)]) rfl ?_
    refine lv_lload_n hx hb dL_isAhead_265 rfl (lv_at hl 4 rfl) ?_
    refine W.lcmp hx hb dL_isAhead_266 ?_
    refine lv_if_ne (tgt := 274) hx hb dL_isAhead_267 (by decide) (fun h9 => absurd (z_lcs _) h9) (fun _ => ?_)
    refine lv_iconst (v := 1) hx hb dL_isAhead_270 (by decide) ?_
    refine lv_goto (tgt := 275) hx hb dL_isAhead_271 (by decide) ?_
    refine lv_istore (lv' := [(5, .int 1), (7, .int (m_std (g 0) - m_std (g 1))), (6, .int (g 0)), (4, .int 0), (2, .long (m_dg g)), (0, .ref (xa 0)), (1, .int x)]) hx hb dL_isAhead_275 hl (by decide) rfl (fun ls hl => ?_)
    refine lv_iload hx hb dL_isAhead_277 (lv_at hl 0 rfl) ?_
    refine lv_if_eq (tgt := 316) hx hb dL_isAhead_279 (by decide) (fun h9 => absurd h9 ((by decide))) (fun _ => ?_)
    refine lv_aload_n hx hb dL_isAhead_282 rfl (lv_at hl 5 rfl) ?_
    have L5 := r_lo1 (r_lo0 hw.2.2.1) (by decide) e_c5
    have L6 := r_lo1 L5 (by decide) e_c6
    have L7 := r_lo1 L6 (by decide) e_c7
    have ph_283 : ¬ c7 = 0 := r_ne L7
    have hPc : va_P E.1 vwCl ([(z_W E xa na ma mb ad tx ln n7 c7 f0 1 g ga g v7).flatten] : List va_W).flatten H := zf_sub hP [0] rfl
    have hDc : va_D A ([(z_W E xa na ma mb ad tx ln n7 c7 f0 1 g ga g v7).flatten] : List va_W).flatten := zf_subD hD [0] (by decide) rfl
    refine z_xmut (Sc := [(z_W E xa na ma mb ad tx ln n7 c7 f0 1 g ga g v7).flatten]) (Sr := []) (W1 := [(z_W E xa na ma mb ad tx ln n6 (nI (m_n c7 - 1)) f0 1 (m_tripC (upd g 10 (77 : Int32)) (3 : Int32) (a_wi ((g 0) + 60) 5000 11000) (m_n (3 : Int32))) ga g v7).flatten]) (vx_runV (As := []) (rest := []) ⟨hx, hb, hml, hown, hts⟩ (c_X9_undoG l E sa hl0 xa na ma mb ad tx ln n7 c7 f0 1 g ga g v7 hw_20 (r_e1 hw_18.2.1 e_n7) (r_e2 hw_18.2.1 e_n7 e_v7) H.size) (cwV 0 hts gL_isAhead_X9_undo rfl rfl rfl (by decide +kernel) ⟨Nat.le_of_ble_eq_true rfl, Nat.le_of_ble_eq_true rfl⟩) ⟨zPE.blind, va_recv hK.1 hPc (ci := 8) (q0 := 0) rfl rfl, z_preE hK hT hZ hS (zf_free hD hS hA [0] rfl) hPc hDc⟩ rfl rfl hl.1 rfl (lv_room (Nat.le_of_ble_eq_true rfl)) dL_isAhead_283 ⟨Nat.le_of_ble_eq_true rfl, Nat.le_of_ble_eq_true rfl⟩) hP hD hS hA [0] [] rfl rfl (by decide) (by decide) (fun Ex ce q9 H locs hps hP hD hS hce hcv hcl => ?_) (fun H locs _ hP hD hS => ?_)
    · exact (absurd hps.2 ph_283)
    have hP : va_P E.1 vwCl ([(z_W E xa na ma mb ad tx ln n6 (nI (m_n c7 - 1)) f0 1 (m_tripC (upd g 10 (77 : Int32)) (3 : Int32) (a_wi ((g 0) + 60) 5000 11000) (m_n (3 : Int32))) ga g v7).flatten] : List va_W).flatten H := hP
    have hD : va_D A ([(z_W E xa na ma mb ad tx ln n6 (nI (m_n c7 - 1)) f0 1 (m_tripC (upd g 10 (77 : Int32)) (3 : Int32) (a_wi ((g 0) + 60) 5000 11000) (m_n (3 : Int32))) ga g v7).flatten] : List va_W).flatten := hD
    refine W.widen (k := 8) (n := 48) (by decide) (by decide) ?_
    refine W.eq (g2 := F0 Mi 286 ls [.int (nI (m_n c7 - 1))]) rfl ?_
    have hw_21 : z_wk ln n6 (nI (m_n c7 - 1)) f0 1 (m_tripC (upd g 10 (77 : Int32)) (3 : Int32) (a_wi ((g 0) + 60) 5000 11000) (m_n (3 : Int32))) ga g v7 := r_wku hw_20 (r_e1 hw_18.2.1 e_n7) (r_e2 hw_18.2.1 e_n7 e_v7) rfl (z_ok_trip (z_ok_thr hw.1) _)
    obtain ⟨c8, e_c8⟩ : ∃ z, z = (nI (m_n c7 - 1)) := ⟨_, rfl⟩
    have hP : va_P E.1 vwCl ([(z_W E xa na ma mb ad tx ln n6 c8 f0 1 (m_tripC (upd g 10 (77 : Int32)) (3 : Int32) (a_wi ((g 0) + 60) 5000 11000) (m_n (3 : Int32))) ga g v7).flatten] : List va_W).flatten H := by rw [e_c8]; exact hP
    have hD : va_D A ([(z_W E xa na ma mb ad tx ln n6 c8 f0 1 (m_tripC (upd g 10 (77 : Int32)) (3 : Int32) (a_wi ((g 0) + 60) 5000 11000) (m_n (3 : Int32))) ga g v7).flatten] : List va_W).flatten := by rw [e_c8]; exact hD
    have hw_22 : z_wk ln n6 c8 f0 1 (m_tripC (upd g 10 (77 : Int32)) (3 : Int32) (a_wi ((g 0) + 60) 5000 11000) (m_n (3 : Int32))) ga g v7 := by rw [e_c8]; exact hw_21
    refine lv_if_lt (tgt := 316) hx hb dL_isAhead_286 (by decide) (fun h9 => absurd h9 (r_nn c7)) (fun _ => ?_)
    refine lv_aload_n hx hb dL_isAhead_289 rfl (lv_at hl 5 rfl) ?_
    have L8 := r_lo2 L7 e_c8
    have eu2 : v7 ((m_n n6 + 5) % 6) = (upd g 10 (77 : Int32)) := by rw [r_u1 hw_16.2.1 e_n6, e_v7, r_vn _ _ (r_ne1 hw_16.2.1 e_n6), e_v6, r_vs]
    have ph_290 : ¬ c8 = 0 := r_ne L8
    have hPc : va_P E.1 vwCl ([(z_W E xa na ma mb ad tx ln n6 c8 f0 1 (m_tripC (upd g 10 (77 : Int32)) (3 : Int32) (a_wi ((g 0) + 60) 5000 11000) (m_n (3 : Int32))) ga g v7).flatten] : List va_W).flatten H := zf_sub hP [0] rfl
    have hDc : va_D A ([(z_W E xa na ma mb ad tx ln n6 c8 f0 1 (m_tripC (upd g 10 (77 : Int32)) (3 : Int32) (a_wi ((g 0) + 60) 5000 11000) (m_n (3 : Int32))) ga g v7).flatten] : List va_W).flatten := zf_subD hD [0] (by decide) rfl
    refine z_xmut (Sc := [(z_W E xa na ma mb ad tx ln n6 c8 f0 1 (m_tripC (upd g 10 (77 : Int32)) (3 : Int32) (a_wi ((g 0) + 60) 5000 11000) (m_n (3 : Int32))) ga g v7).flatten]) (Sr := []) (W1 := [(z_W E xa na ma mb ad tx ln n5 (nI (m_n c8 - 1)) f0 1 (upd g 10 (77 : Int32)) ga g v7).flatten]) (vx_runV (As := []) (rest := []) ⟨hx, hb, hml, hown, hts⟩ (c_X9_undoG l E sa hl0 xa na ma mb ad tx ln n6 c8 f0 1 (m_tripC (upd g 10 (77 : Int32)) (3 : Int32) (a_wi ((g 0) + 60) 5000 11000) (m_n (3 : Int32))) ga g v7 hw_22 (r_e1 hw_16.2.1 e_n6) eu2 H.size) (cwV 0 hts gL_isAhead_X9_undo rfl rfl rfl (by decide +kernel) ⟨Nat.le_of_ble_eq_true rfl, Nat.le_of_ble_eq_true rfl⟩) ⟨zPE.blind, va_recv hK.1 hPc (ci := 8) (q0 := 0) rfl rfl, z_preE hK hT hZ hS (zf_free hD hS hA [0] rfl) hPc hDc⟩ rfl rfl hl.1 rfl (lv_room (Nat.le_of_ble_eq_true rfl)) dL_isAhead_290 ⟨Nat.le_of_ble_eq_true rfl, Nat.le_of_ble_eq_true rfl⟩) hP hD hS hA [0] [] rfl rfl (by decide) (by decide) (fun Ex ce q9 H locs hps hP hD hS hce hcv hcl => ?_) (fun H locs _ hP hD hS => ?_)
    · exact (absurd hps.2 ph_290)
    have hP : va_P E.1 vwCl ([(z_W E xa na ma mb ad tx ln n5 (nI (m_n c8 - 1)) f0 1 (upd g 10 (77 : Int32)) ga g v7).flatten] : List va_W).flatten H := hP
    have hD : va_D A ([(z_W E xa na ma mb ad tx ln n5 (nI (m_n c8 - 1)) f0 1 (upd g 10 (77 : Int32)) ga g v7).flatten] : List va_W).flatten := hD
    refine W.widen (k := 9) (n := 54) (by decide) (by decide) ?_
    refine W.eq (g2 := F0 Mi 293 ls [.int (nI (m_n c8 - 1))]) rfl ?_
    have hw_23 : z_wk ln n5 (nI (m_n c8 - 1)) f0 1 (upd g 10 (77 : Int32)) ga g v7 := r_wku hw_22 (r_e1 hw_16.2.1 e_n6) eu2 rfl (z_ok_thr hw.1)
    obtain ⟨c9, e_c9⟩ : ∃ z, z = (nI (m_n c8 - 1)) := ⟨_, rfl⟩
    have hP : va_P E.1 vwCl ([(z_W E xa na ma mb ad tx ln n5 c9 f0 1 (upd g 10 (77 : Int32)) ga g v7).flatten] : List va_W).flatten H := by rw [e_c9]; exact hP
    have hD : va_D A ([(z_W E xa na ma mb ad tx ln n5 c9 f0 1 (upd g 10 (77 : Int32)) ga g v7).flatten] : List va_W).flatten := by rw [e_c9]; exact hD
    have hw_24 : z_wk ln n5 c9 f0 1 (upd g 10 (77 : Int32)) ga g v7 := by rw [e_c9]; exact hw_23
    refine lv_if_lt (tgt := 316) hx hb dL_isAhead_293 (by decide) (fun h9 => absurd h9 (r_nn c8)) (fun _ => ?_)
    refine lv_aload_n hx hb dL_isAhead_296 rfl (lv_at hl 5 rfl) ?_
    have L9 := r_lo2 L8 e_c9
    have eu3 : v7 ((m_n n5 + 5) % 6) = g := by rw [r_u1 hw.2.1 e_n5, e_v7, r_vn _ _ (r_ne2 hw.2.1 e_n5 e_n6), e_v6, r_vn _ _ (r_ne1 hw.2.1 e_n5), e_v5, r_vs]
    have ph_297 : ¬ c9 = 0 := r_ne L9
    have hPc : va_P E.1 vwCl ([(z_W E xa na ma mb ad tx ln n5 c9 f0 1 (upd g 10 (77 : Int32)) ga g v7).flatten] : List va_W).flatten H := zf_sub hP [0] rfl
    have hDc : va_D A ([(z_W E xa na ma mb ad tx ln n5 c9 f0 1 (upd g 10 (77 : Int32)) ga g v7).flatten] : List va_W).flatten := zf_subD hD [0] (by decide) rfl
    refine z_xmut (Sc := [(z_W E xa na ma mb ad tx ln n5 c9 f0 1 (upd g 10 (77 : Int32)) ga g v7).flatten]) (Sr := []) (W1 := [(z_W E xa na ma mb ad tx ln nx (nI (m_n c9 - 1)) f0 1 g ga g v7).flatten]) (vx_runV (As := []) (rest := []) ⟨hx, hb, hml, hown, hts⟩ (c_X9_undoG l E sa hl0 xa na ma mb ad tx ln n5 c9 f0 1 (upd g 10 (77 : Int32)) ga g v7 hw_24 (r_e1 hw.2.1 e_n5) eu3 H.size) (cwV 0 hts gL_isAhead_X9_undo rfl rfl rfl (by decide +kernel) ⟨Nat.le_of_ble_eq_true rfl, Nat.le_of_ble_eq_true rfl⟩) ⟨zPE.blind, va_recv hK.1 hPc (ci := 8) (q0 := 0) rfl rfl, z_preE hK hT hZ hS (zf_free hD hS hA [0] rfl) hPc hDc⟩ rfl rfl hl.1 rfl (lv_room (Nat.le_of_ble_eq_true rfl)) dL_isAhead_297 ⟨Nat.le_of_ble_eq_true rfl, Nat.le_of_ble_eq_true rfl⟩) hP hD hS hA [0] [] rfl rfl (by decide) (by decide) (fun Ex ce q9 H locs hps hP hD hS hce hcv hcl => ?_) (fun H locs _ hP hD hS => ?_)
    · exact (absurd hps.2 ph_297)
    have hP : va_P E.1 vwCl ([(z_W E xa na ma mb ad tx ln nx (nI (m_n c9 - 1)) f0 1 g ga g v7).flatten] : List va_W).flatten H := hP
    have hD : va_D A ([(z_W E xa na ma mb ad tx ln nx (nI (m_n c9 - 1)) f0 1 g ga g v7).flatten] : List va_W).flatten := hD
    refine W.widen (k := 10) (n := 60) (by decide) (by decide) ?_
    refine W.eq (g2 := F0 Mi 300 ls [.int (nI (m_n c9 - 1))]) rfl ?_
    have hw_25 : z_wk ln nx (nI (m_n c9 - 1)) f0 1 g ga g v7 := r_wku hw_24 (r_e1 hw.2.1 e_n5) eu3 rfl hw.1
    obtain ⟨c10, e_c10⟩ : ∃ z, z = (nI (m_n c9 - 1)) := ⟨_, rfl⟩
    have hP : va_P E.1 vwCl ([(z_W E xa na ma mb ad tx ln nx c10 f0 1 g ga g v7).flatten] : List va_W).flatten H := by rw [e_c10]; exact hP
    have hD : va_D A ([(z_W E xa na ma mb ad tx ln nx c10 f0 1 g ga g v7).flatten] : List va_W).flatten := by rw [e_c10]; exact hD
    have hw_26 : z_wk ln nx c10 f0 1 g ga g v7 := by rw [e_c10]; exact hw_25
    refine lv_if_lt (tgt := 316) hx hb dL_isAhead_300 (by decide) (fun h9 => absurd h9 (r_nn c9)) (fun _ => ?_)
    refine lv_aload_n hx hb dL_isAhead_303 rfl (lv_at hl 5 rfl) ?_
    have hPc : va_P E.1 vwCl ([(z_W E xa na ma mb ad tx ln nx c10 f0 1 g ga g v7).flatten] : List va_W).flatten H := zf_sub hP [0] rfl
    refine z_rdv (va_runV (As := []) (rest := []) ⟨hx, hb, hml, hown, hts⟩ (c_X9_digest l E xa na ma mb ad tx ln nx c10 f0 1 g ga g v7 hw_26) (cwV 0 hts gL_isAhead_X9_digest rfl rfl rfl (by decide +kernel) ⟨Nat.le_of_ble_eq_true rfl, Nat.le_of_ble_eq_true rfl⟩) ⟨zPr.blind, va_recv hK.1 hPc (ci := 8) (q0 := 0) rfl rfl, z_prer hK hPc⟩ rfl rfl hl.1 rfl (lv_room (Nat.le_of_ble_eq_true rfl)) dL_isAhead_304 ⟨Nat.le_of_ble_eq_true rfl, Nat.le_of_ble_eq_true rfl⟩) ?_
    refine W.eq (g2 := F0 Mi 307 ls [.long (m_dg g)]) rfl ?_
    refine lv_lload_n hx hb dL_isAhead_307 rfl (lv_at hl 4 rfl) ?_
    refine W.lcmp hx hb dL_isAhead_308 ?_
    refine lv_if_ne (tgt := 316) hx hb dL_isAhead_309 (by decide) (fun h9 => absurd (z_lcs _) h9) (fun _ => ?_)
    refine lv_iconst (v := 1) hx hb dL_isAhead_312 (by decide) ?_
    refine lv_goto (tgt := 317) hx hb dL_isAhead_313 (by decide) ?_
    refine W.widen (k := 16) (n := 96) (by decide) (by decide) ?_
    refine vx_ret ?_
    exact W.zret (v := 1) hx hb hr rfl (z_endy (c10, v7) hw_26 hP hD hS rfl) hS.2.2 dL_isAhead_317 hlocks
  · refine lv_aload_n hx hb dL_isAhead_0 rfl (lv_at hl 0 rfl) ?_
    have hPc : va_P E.1 vwCl ([(z_W E xa na ma mb ad tx ln nx ct f0 f1 g ga gb v).flatten] : List va_W).flatten H := zf_sub hP [0] rfl
    refine z_rdv (va_runV (As := []) (rest := []) ⟨hx, hb, hml, hown, hts⟩ (c_X9_digest l E xa na ma mb ad tx ln nx ct f0 f1 g ga gb v hw) (cwV 0 hts gL_isAhead_X9_digest rfl rfl rfl (by decide +kernel) ⟨Nat.le_of_ble_eq_true rfl, Nat.le_of_ble_eq_true rfl⟩) ⟨zPr.blind, va_recv hK.1 hPc (ci := 8) (q0 := 0) rfl rfl, z_prer hK hPc⟩ rfl rfl hl.1 rfl (lv_room (Nat.le_of_ble_eq_true rfl)) dL_isAhead_1 ⟨Nat.le_of_ble_eq_true rfl, Nat.le_of_ble_eq_true rfl⟩) ?_
    refine W.eq (g2 := F0 Mi 4 ls [.long (m_dg g)]) rfl ?_
    refine lv_lstore_n (lv' := [(2, .long (m_dg g)), (0, .ref (xa 0)), (1, .int x)]) hx hb dL_isAhead_4 rfl hl (by decide) rfl (fun ls hl => ?_)
    refine lv_aload_n hx hb dL_isAhead_5 rfl (lv_at hl 1 rfl) ?_
    refine lv_iload_n hx hb dL_isAhead_6 rfl (lv_at hl 2 rfl) ?_
    have ph_7 : 1 ≤ x ∧ x ≤ 20 := ⟨by rw [hxe]; exact nI_le (a := 1) he1 (by omega), by rw [hxe]; exact nI_le (b := 20) he2 (by decide)⟩
    have hPc : va_P E.1 vwCl ([(z_W E xa na ma mb ad tx ln nx ct f0 f1 g ga gb v).flatten] : List va_W).flatten H := zf_sub hP [0] rfl
    have hDc : va_D A ([(z_W E xa na ma mb ad tx ln nx ct f0 f1 g ga gb v).flatten] : List va_W).flatten := zf_subD hD [0] (by decide) rfl
    refine z_xmut (Sc := [(z_W E xa na ma mb ad tx ln nx ct f0 f1 g ga gb v).flatten]) (Sr := []) (W1 := [(z_W E xa na ma mb ad tx ln nx ct f0 f1 g ga gb v).flatten]) (vx_runV (As := [.int x]) (rest := []) ⟨hx, hb, hml, hown, hts⟩ (c_X9_minutesToAlarm l E sa hl0 xa na ma mb ad tx ln nx ct f0 f1 g ga gb v hw x H.size) (cwV 1 hts gL_isAhead_X9_minutesToAlarm rfl rfl rfl (by decide +kernel) ⟨Nat.le_of_ble_eq_true rfl, Nat.le_of_ble_eq_true rfl⟩) ⟨zPE.blind, va_recv hK.1 hPc (ci := 8) (q0 := 0) rfl rfl, z_preE hK hT hZ hS (zf_free hD hS hA [0] rfl) hPc hDc⟩ rfl rfl hl.1 rfl (lv_room (Nat.le_of_ble_eq_true rfl)) dL_isAhead_7 ⟨Nat.le_of_ble_eq_true rfl, Nat.le_of_ble_eq_true rfl⟩) hP hD hS hA [0] [] rfl rfl (by decide) (by decide) (fun Ex ce q9 H locs hps hP hD hS hce hcv hcl => ?_) (fun H locs _ hP hD hS => ?_)
    · exact (absurd ph_7 hps.2)
    have hP : va_P E.1 vwCl ([(z_W E xa na ma mb ad tx ln nx ct f0 f1 g ga gb v).flatten] : List va_W).flatten H := hP
    have hD : va_D A ([(z_W E xa na ma mb ad tx ln nx ct f0 f1 g ga gb v).flatten] : List va_W).flatten := hD
    refine W.widen (k := 1) (n := 6) (by decide) (by decide) ?_
    refine W.eq (g2 := F0 Mi 10 ls [.int (m_muC g x)]) rfl ?_
    refine z_topi (y := (-1)) ek ?_
    refine lv_istore (lv' := [(4, .int (-1)), (2, .long (m_dg g)), (0, .ref (xa 0)), (1, .int x)]) hx hb dL_isAhead_10 hl (by decide) rfl (fun ls hl => ?_)
    refine lv_aload_n hx hb dL_isAhead_12 rfl (lv_at hl 2 rfl) ?_
    have hPc : va_P E.1 vwCl ([(z_W E xa na ma mb ad tx ln nx ct f0 f1 g ga gb v).flatten] : List va_W).flatten H := zf_sub hP [0] rfl
    refine z_rdv (va_runV (As := []) (rest := []) ⟨hx, hb, hml, hown, hts⟩ (c_X9_isStation l E xa na ma mb ad tx ln nx ct f0 f1 g ga gb v hw) (cwV 0 hts gL_isAhead_X9_isStation rfl rfl rfl (by decide +kernel) ⟨Nat.le_of_ble_eq_true rfl, Nat.le_of_ble_eq_true rfl⟩) ⟨zPr.blind, va_recv hK.1 hPc (ci := 8) (q0 := 0) rfl rfl, z_prer hK hPc⟩ rfl rfl hl.1 rfl (lv_room (Nat.le_of_ble_eq_true rfl)) dL_isAhead_13 ⟨Nat.le_of_ble_eq_true rfl, Nat.le_of_ble_eq_true rfl⟩) ?_
    refine W.eq (g2 := F0 Mi 16 ls [.int (g 2)]) rfl ?_
    refine lv_if_ne (tgt := 25) hx hb dL_isAhead_16 (by decide) (fun _ => ?_) (fun h9 => absurd h9 (c2))
    refine lv_iload hx hb dL_isAhead_25 (lv_at hl 0 rfl) ?_
    refine lv_if_ne (tgt := 34) hx hb dL_isAhead_27 (by decide) (fun _ => ?_) (fun h9 => absurd h9 ((by decide)))
    refine lv_iconst (v := 0) hx hb dL_isAhead_34 (by decide) ?_
    refine lv_aload_n hx hb dL_isAhead_35 rfl (lv_at hl 2 rfl) ?_
    have hPc : va_P E.1 vwCl ([(z_W E xa na ma mb ad tx ln nx ct f0 f1 g ga gb v).flatten] : List va_W).flatten H := zf_sub hP [0] rfl
    refine z_rdv (va_runV (As := []) (rest := [.int 0]) ⟨hx, hb, hml, hown, hts⟩ (c_X9_isStation l E xa na ma mb ad tx ln nx ct f0 f1 g ga gb v hw) (cwV 0 hts gL_isAhead_X9_isStation rfl rfl rfl (by decide +kernel) ⟨Nat.le_of_ble_eq_true rfl, Nat.le_of_ble_eq_true rfl⟩) ⟨zPr.blind, va_recv hK.1 hPc (ci := 8) (q0 := 0) rfl rfl, z_prer hK hPc⟩ rfl rfl hl.1 rfl (lv_room (Nat.le_of_ble_eq_true rfl)) dL_isAhead_36 ⟨Nat.le_of_ble_eq_true rfl, Nat.le_of_ble_eq_true rfl⟩) ?_
    refine W.eq (g2 := F0 Mi 39 ls [.int (g 2), .int 0]) rfl ?_
    refine lv_if_eq (tgt := 53) hx hb dL_isAhead_39 (by decide) (fun h9 => absurd h9 (c2)) (fun _ => ?_)
    refine lv_aload_n hx hb dL_isAhead_42 rfl (lv_at hl 2 rfl) ?_
    have hPc : va_P E.1 vwCl ([(z_W E xa na ma mb ad tx ln nx ct f0 f1 g ga gb v).flatten] : List va_W).flatten H := zf_sub hP [0] rfl
    refine z_rdv (va_runV (As := []) (rest := [.int 0]) ⟨hx, hb, hml, hown, hts⟩ (c_X9_isAlarm l E xa na ma mb ad tx ln nx ct f0 f1 g ga gb v hw) (cwV 0 hts gL_isAhead_X9_isAlarm rfl rfl rfl (by decide +kernel) ⟨Nat.le_of_ble_eq_true rfl, Nat.le_of_ble_eq_true rfl⟩) ⟨zPr.blind, va_recv hK.1 hPc (ci := 8) (q0 := 0) rfl rfl, z_prer hK hPc⟩ rfl rfl hl.1 rfl (lv_room (Nat.le_of_ble_eq_true rfl)) dL_isAhead_43 ⟨Nat.le_of_ble_eq_true rfl, Nat.le_of_ble_eq_true rfl⟩) ?_
    refine W.eq (g2 := F0 Mi 46 ls [.int (m_al (m_n (g 14)) (m_log g) (g 11)), .int 0]) rfl ?_
    refine lv_if_eq (tgt := 53) hx hb dL_isAhead_46 (by decide) (fun _ => ?_) (fun h9 => absurd (ca) h9)
    refine lv_iconst (v := 0) hx hb dL_isAhead_53 (by decide) ?_
    refine lv_icmp_ne (tgt := 61) hx hb dL_isAhead_54 (by decide) (fun h9 => absurd ((by decide)) h9) (fun _ => ?_)
    refine lv_iconst (v := 1) hx hb dL_isAhead_57 (by decide) ?_
    refine lv_goto (tgt := 62) hx hb dL_isAhead_58 (by decide) ?_
    refine lv_istore (lv' := [(5, .int 1), (4, .int (-1)), (2, .long (m_dg g)), (0, .ref (xa 0)), (1, .int x)]) hx hb dL_isAhead_62 hl (by decide) rfl (fun ls hl => ?_)
    refine lv_aload_n hx hb dL_isAhead_64 rfl (lv_at hl 3 rfl) ?_
    have hPc : va_P E.1 vwCl ([(z_W E xa na ma mb ad tx ln nx ct f0 f1 g ga gb v).flatten] : List va_W).flatten H := zf_sub hP [0] rfl
    refine z_rdv (va_runV (As := []) (rest := []) ⟨hx, hb, hml, hown, hts⟩ (c_X9_pressure l E xa na ma mb ad tx ln nx ct f0 f1 g ga gb v hw) (cwV 0 hts gL_isAhead_X9_pressure rfl rfl rfl (by decide +kernel) ⟨Nat.le_of_ble_eq_true rfl, Nat.le_of_ble_eq_true rfl⟩) ⟨zPr.blind, va_recv hK.1 hPc (ci := 8) (q0 := 0) rfl rfl, z_prer hK hPc⟩ rfl rfl hl.1 rfl (lv_room (Nat.le_of_ble_eq_true rfl)) dL_isAhead_65 ⟨Nat.le_of_ble_eq_true rfl, Nat.le_of_ble_eq_true rfl⟩) ?_
    refine W.eq (g2 := F0 Mi 68 ls [.int (g 0)]) rfl ?_
    refine lv_istore (lv' := [(6, .int (g 0)), (5, .int 1), (4, .int (-1)), (2, .long (m_dg g)), (0, .ref (xa 0)), (1, .int x)]) hx hb dL_isAhead_68 hl (by decide) rfl (fun ls hl => ?_)
    refine lv_iload hx hb dL_isAhead_70 (lv_at hl 1 rfl) ?_
    refine lv_if_eq (tgt := 184) hx hb dL_isAhead_72 (by decide) (fun h9 => absurd h9 ((by decide))) (fun _ => ?_)
    refine lv_iload hx hb dL_isAhead_75 (lv_at hl 2 rfl) ?_
    refine lv_if_le (tgt := 184) hx hb dL_isAhead_77 (by decide) (fun _ => ?_) (fun h9 => absurd ((by decide)) h9)
    refine lv_aload_n hx hb dL_isAhead_184 rfl (lv_at hl 4 rfl) ?_
    refine lv_iconst (v := 1) hx hb dL_isAhead_185 (by decide) ?_
    have ph_186 : (0 : Int32) ≤ 1 ∧ (1 : Int32) ≤ 1 := ⟨by decide, by decide⟩
    have hPc : va_P E.1 vwCl ([(z_W E xa na ma mb ad tx ln nx ct f0 f1 g ga gb v).flatten] : List va_W).flatten H := zf_sub hP [0] rfl
    have hDc : va_D A ([(z_W E xa na ma mb ad tx ln nx ct f0 f1 g ga gb v).flatten] : List va_W).flatten := zf_subD hD [0] (by decide) rfl
    refine z_xmut (Sc := [(z_W E xa na ma mb ad tx ln nx ct f0 f1 g ga gb v).flatten]) (Sr := []) (W1 := [(z_W E xa na ma mb ad tx ln nx ct f0 1 g ga g v).flatten]) (vx_runV (As := [.int 1]) (rest := []) ⟨hx, hb, hml, hown, hts⟩ (c_X9_store1 l E sa hl0 xa na ma mb ad tx ln nx ct f0 f1 g ga gb v hw H.size) (cwV 1 hts gL_isAhead_X9_store rfl rfl rfl (by decide +kernel) ⟨Nat.le_of_ble_eq_true rfl, Nat.le_of_ble_eq_true rfl⟩) ⟨zPE.blind, va_recv hK.1 hPc (ci := 8) (q0 := 0) rfl rfl, z_preE hK hT hZ hS (zf_free hD hS hA [0] rfl) hPc hDc⟩ rfl rfl hl.1 rfl (lv_room (Nat.le_of_ble_eq_true rfl)) dL_isAhead_186 ⟨Nat.le_of_ble_eq_true rfl, Nat.le_of_ble_eq_true rfl⟩) hP hD hS hA [0] [] rfl rfl (by decide) (by decide) (fun Ex ce q9 H locs hps hP hD hS hce hcv hcl => ?_) (fun H locs _ hP hD hS => ?_)
    · exact (absurd ph_186 hps.2)
    have hP : va_P E.1 vwCl ([(z_W E xa na ma mb ad tx ln nx ct f0 1 g ga g v).flatten] : List va_W).flatten H := hP
    have hD : va_D A ([(z_W E xa na ma mb ad tx ln nx ct f0 1 g ga g v).flatten] : List va_W).flatten := hD
    refine W.widen (k := 2) (n := 12) (by decide) (by decide) ?_
    refine W.eq (g2 := F0 Mi 189 ls [.int (m_std (g 0) - m_std (g 1))]) rfl ?_
    have hw_27 : z_wk ln nx ct f0 1 g ga g v := z_wk_st1 hw
    refine lv_istore (lv' := [(7, .int (m_std (g 0) - m_std (g 1))), (6, .int (g 0)), (5, .int 1), (4, .int (-1)), (2, .long (m_dg g)), (0, .ref (xa 0)), (1, .int x)]) hx hb dL_isAhead_189 hl (by decide) rfl (fun ls hl => ?_)
    refine lv_iload hx hb dL_isAhead_191 (lv_at hl 2 rfl) ?_
    refine lv_if_eq (tgt := 274) hx hb dL_isAhead_193 (by decide) (fun h9 => absurd h9 ((by decide))) (fun _ => ?_)
    refine lv_iload hx hb dL_isAhead_196 (lv_at hl 0 rfl) ?_
    refine lv_aload_n hx hb dL_isAhead_198 rfl (lv_at hl 5 rfl) ?_
    have hPc : va_P E.1 vwCl ([(z_W E xa na ma mb ad tx ln nx ct f0 1 g ga g v).flatten] : List va_W).flatten H := zf_sub hP [0] rfl
    refine z_rdv (va_runV (As := []) (rest := [.int (m_std (g 0) - m_std (g 1))]) ⟨hx, hb, hml, hown, hts⟩ (c_X9_altitude l E xa na ma mb ad tx ln nx ct f0 1 g ga g v hw_27) (cwV 0 hts gL_isAhead_X9_altitude rfl rfl rfl (by decide +kernel) ⟨Nat.le_of_ble_eq_true rfl, Nat.le_of_ble_eq_true rfl⟩) ⟨zPr.blind, va_recv hK.1 hPc (ci := 8) (q0 := 0) rfl rfl, z_prer hK hPc⟩ rfl rfl hl.1 rfl (lv_room (Nat.le_of_ble_eq_true rfl)) dL_isAhead_199 ⟨Nat.le_of_ble_eq_true rfl, Nat.le_of_ble_eq_true rfl⟩) ?_
    refine W.eq (g2 := F0 Mi 202 ls [.int (m_std (g 0) - m_std (g 1)), .int (m_std (g 0) - m_std (g 1))]) rfl ?_
    refine lv_icmp_ne (tgt := 274) hx hb dL_isAhead_202 (by decide) (fun h9 => absurd (rfl) h9) (fun _ => ?_)
    refine lv_aload_n hx hb dL_isAhead_205 rfl (lv_at hl 5 rfl) ?_
    have hPc : va_P E.1 vwCl ([(z_W E xa na ma mb ad tx ln nx ct f0 1 g ga g v).flatten] : List va_W).flatten H := zf_sub hP [0] rfl
    refine z_rdv (va_runV (As := []) (rest := []) ⟨hx, hb, hml, hown, hts⟩ (c_X9_digest l E xa na ma mb ad tx ln nx ct f0 1 g ga g v hw_27) (cwV 0 hts gL_isAhead_X9_digest rfl rfl rfl (by decide +kernel) ⟨Nat.le_of_ble_eq_true rfl, Nat.le_of_ble_eq_true rfl⟩) ⟨zPr.blind, va_recv hK.1 hPc (ci := 8) (q0 := 0) rfl rfl, z_prer hK hPc⟩ rfl rfl hl.1 rfl (lv_room (Nat.le_of_ble_eq_true rfl)) dL_isAhead_206 ⟨Nat.le_of_ble_eq_true rfl, Nat.le_of_ble_eq_true rfl⟩) ?_
    refine W.eq (g2 := F0 Mi 209 ls [.long (m_dg g)]) rfl ?_
    refine lv_lload_n hx hb dL_isAhead_209 rfl (lv_at hl 4 rfl) ?_
    refine W.lcmp hx hb dL_isAhead_210 ?_
    refine lv_if_ne (tgt := 274) hx hb dL_isAhead_211 (by decide) (fun h9 => absurd (z_lcs _) h9) (fun _ => ?_)
    refine lv_aload_n hx hb dL_isAhead_214 rfl (lv_at hl 5 rfl) ?_
    refine lv_bipush (v := 77) hx hb dL_isAhead_215 (by decide) ?_
    have ph_217 : 10 ≤ (77 : Int32) ∧ (77 : Int32) ≤ 500 := ⟨by decide, by decide⟩
    have hPc : va_P E.1 vwCl ([(z_W E xa na ma mb ad tx ln nx ct f0 1 g ga g v).flatten] : List va_W).flatten H := zf_sub hP [0] rfl
    have hDc : va_D A ([(z_W E xa na ma mb ad tx ln nx ct f0 1 g ga g v).flatten] : List va_W).flatten := zf_subD hD [0] (by decide) rfl
    refine z_xmut (Sc := [(z_W E xa na ma mb ad tx ln nx ct f0 1 g ga g v).flatten]) (Sr := []) (W1 := [(z_W E xa na ma mb ad tx ln (nI ((m_n nx + 1) % 6)) (nI (if m_n ct < 6 then m_n ct + 1 else 6)) f0 1 (upd g 10 (77 : Int32)) ga g (va_up v (m_n nx) g)).flatten]) (vx_runV (As := [.int 77]) (rest := []) ⟨hx, hb, hml, hown, hts⟩ (c_X9_setThreshold l E sa hl0 xa na ma mb ad tx ln nx ct f0 1 g ga g v hw_27 77 H.size) (cwV 1 hts gL_isAhead_X9_setThreshold rfl rfl rfl (by decide +kernel) ⟨Nat.le_of_ble_eq_true rfl, Nat.le_of_ble_eq_true rfl⟩) ⟨zPE.blind, va_recv hK.1 hPc (ci := 8) (q0 := 0) rfl rfl, z_preE hK hT hZ hS (zf_free hD hS hA [0] rfl) hPc hDc⟩ rfl rfl hl.1 rfl (lv_room (Nat.le_of_ble_eq_true rfl)) dL_isAhead_217 ⟨Nat.le_of_ble_eq_true rfl, Nat.le_of_ble_eq_true rfl⟩) hP hD hS hA [0] [] rfl rfl (by decide) (by decide) (fun Ex ce q9 H locs hps hP hD hS hce hcv hcl => ?_) (fun H locs _ hP hD hS => ?_)
    · exact (absurd ph_217 hps.2)
    have hP : va_P E.1 vwCl ([(z_W E xa na ma mb ad tx ln (nI ((m_n nx + 1) % 6)) (nI (if m_n ct < 6 then m_n ct + 1 else 6)) f0 1 (upd g 10 (77 : Int32)) ga g (va_up v (m_n nx) g)).flatten] : List va_W).flatten H := hP
    have hD : va_D A ([(z_W E xa na ma mb ad tx ln (nI ((m_n nx + 1) % 6)) (nI (if m_n ct < 6 then m_n ct + 1 else 6)) f0 1 (upd g 10 (77 : Int32)) ga g (va_up v (m_n nx) g)).flatten] : List va_W).flatten := hD
    refine W.widen (k := 3) (n := 18) (by decide) (by decide) ?_
    refine W.eq (g2 := F0 Mi 220 ls [.int (g 10)]) rfl ?_
    have hw_28 : z_wk ln (nI ((m_n nx + 1) % 6)) (nI (if m_n ct < 6 then m_n ct + 1 else 6)) f0 1 (upd g 10 (77 : Int32)) ga g (va_up v (m_n nx) g) := z_wk_save hw_27 (show z_ok (upd g 10 (77 : Int32)) from z_ok_thr hw.1)
    obtain ⟨n5, e_n5⟩ : ∃ z, z = (nI ((m_n nx + 1) % 6)) := ⟨_, rfl⟩
    obtain ⟨c5, e_c5⟩ : ∃ z, z = (nI (if m_n ct < 6 then m_n ct + 1 else 6)) := ⟨_, rfl⟩
    obtain ⟨v5, e_v5⟩ : ∃ z, z = (va_up v (m_n nx) g) := ⟨_, rfl⟩
    have hP : va_P E.1 vwCl ([(z_W E xa na ma mb ad tx ln n5 c5 f0 1 (upd g 10 (77 : Int32)) ga g v5).flatten] : List va_W).flatten H := by rw [e_n5, e_c5, e_v5]; exact hP
    have hD : va_D A ([(z_W E xa na ma mb ad tx ln n5 c5 f0 1 (upd g 10 (77 : Int32)) ga g v5).flatten] : List va_W).flatten := by rw [e_n5, e_c5, e_v5]; exact hD
    have hw_29 : z_wk ln n5 c5 f0 1 (upd g 10 (77 : Int32)) ga g v5 := by rw [e_n5, e_c5, e_v5]; exact hw_28
    refine lv_bipush (v := 10) hx hb dL_isAhead_220 (by decide) ?_
    refine lv_icmp_lt (tgt := 274) hx hb dL_isAhead_222 (by decide) (fun h9 => absurd h9 (h_10 hg)) (fun _ => ?_)
    refine lv_aload_n hx hb dL_isAhead_225 rfl (lv_at hl 5 rfl) ?_
    refine lv_iconst (v := 3) hx hb dL_isAhead_226 (by decide) ?_
    refine lv_iload hx hb dL_isAhead_227 (lv_at hl 1 rfl) ?_
    refine lv_bipush (v := 60) hx hb dL_isAhead_229 (by decide) ?_
    refine lv_iadd hx hb dL_isAhead_231 ?_
    refine lv_sipush (v := 5000) hx hb dL_isAhead_232 (by decide) ?_
    refine lv_sipush (v := 11000) hx hb dL_isAhead_235 (by decide) ?_
    refine z_rdv (va_runS (As := [.int ((g 0) + 60), .int 5000, .int 11000]) (rest := [.int 3, .ref (xa 0)]) ⟨hx, hb, hml, hown, hts⟩ (c_L_within l E ((g 0) + 60) 5000 11000) (va_cwS 3 hts gL_isAhead_L_within rfl rfl rfl (by decide +kernel) ⟨Nat.le_of_ble_eq_true rfl, Nat.le_of_ble_eq_true rfl⟩) ⟨zPr.blind, z_prer hK zP_nil⟩ rfl rfl hl.1 rfl (lv_room (Nat.le_of_ble_eq_true rfl)) dL_isAhead_238 ⟨Nat.le_of_ble_eq_true rfl, Nat.le_of_ble_eq_true rfl⟩) ?_
    refine W.eq (g2 := F0 Mi 241 ls [.int (a_wi ((g 0) + 60) 5000 11000), .int 3, .ref (xa 0)]) rfl ?_
    have ph_241 : (1 ≤ (3 : Int32) ∧ (3 : Int32) ≤ 120) ∧ (5000 ≤ (a_wi ((g 0) + 60) 5000 11000) ∧ (a_wi ((g 0) + 60) 5000 11000) ≤ 11000) := ⟨⟨by decide, by decide⟩, a_wi_r (by decide)⟩
    have hPc : va_P E.1 vwCl ([(z_W E xa na ma mb ad tx ln n5 c5 f0 1 (upd g 10 (77 : Int32)) ga g v5).flatten] : List va_W).flatten H := zf_sub hP [0] rfl
    have hDc : va_D A ([(z_W E xa na ma mb ad tx ln n5 c5 f0 1 (upd g 10 (77 : Int32)) ga g v5).flatten] : List va_W).flatten := zf_subD hD [0] (by decide) rfl
    refine z_xmut (Sc := [(z_W E xa na ma mb ad tx ln n5 c5 f0 1 (upd g 10 (77 : Int32)) ga g v5).flatten]) (Sr := []) (W1 := [(z_W E xa na ma mb ad tx ln (nI ((m_n n5 + 1) % 6)) (nI (if m_n c5 < 6 then m_n c5 + 1 else 6)) f0 1 (m_tripC (upd g 10 (77 : Int32)) (3 : Int32) (a_wi ((g 0) + 60) 5000 11000) (m_n (3 : Int32))) ga g (va_up v5 (m_n n5) (upd g 10 (77 : Int32)))).flatten]) (vx_runV (As := [.int 3, .int (a_wi ((g 0) + 60) 5000 11000)]) (rest := []) ⟨hx, hb, hml, hown, hts⟩ (c_X9_travel l E sa hl0 xa na ma mb ad tx ln n5 c5 f0 1 (upd g 10 (77 : Int32)) ga g v5 hw_29 3 (a_wi ((g 0) + 60) 5000 11000) H.size) (cwV 2 hts gL_isAhead_X9_travel rfl rfl rfl (by decide +kernel) ⟨Nat.le_of_ble_eq_true rfl, Nat.le_of_ble_eq_true rfl⟩) ⟨zPE.blind, va_recv hK.1 hPc (ci := 8) (q0 := 0) rfl rfl, z_preE hK hT hZ hS (zf_free hD hS hA [0] rfl) hPc hDc⟩ rfl rfl hl.1 rfl (lv_room (Nat.le_of_ble_eq_true rfl)) dL_isAhead_241 ⟨Nat.le_of_ble_eq_true rfl, Nat.le_of_ble_eq_true rfl⟩) hP hD hS hA [0] [] rfl rfl (by decide) (by decide) (fun Ex ce q9 H locs hps hP hD hS hce hcv hcl => ?_) (fun H locs _ hP hD hS => ?_)
    · exact (absurd ph_241 hps.2)
    have hP : va_P E.1 vwCl ([(z_W E xa na ma mb ad tx ln (nI ((m_n n5 + 1) % 6)) (nI (if m_n c5 < 6 then m_n c5 + 1 else 6)) f0 1 (m_tripC (upd g 10 (77 : Int32)) (3 : Int32) (a_wi ((g 0) + 60) 5000 11000) (m_n (3 : Int32))) ga g (va_up v5 (m_n n5) (upd g 10 (77 : Int32)))).flatten] : List va_W).flatten H := hP
    have hD : va_D A ([(z_W E xa na ma mb ad tx ln (nI ((m_n n5 + 1) % 6)) (nI (if m_n c5 < 6 then m_n c5 + 1 else 6)) f0 1 (m_tripC (upd g 10 (77 : Int32)) (3 : Int32) (a_wi ((g 0) + 60) 5000 11000) (m_n (3 : Int32))) ga g (va_up v5 (m_n n5) (upd g 10 (77 : Int32)))).flatten] : List va_W).flatten := hD
    refine W.widen (k := 5) (n := 30) (by decide) (by decide) ?_
    refine W.eq (g2 := F0 Mi 244 ls [.int (m_std ((m_tripC (upd g 10 (77 : Int32)) (3 : Int32) (a_wi ((g 0) + 60) 5000 11000) (m_n (3 : Int32))) 0) - m_std ((m_tripC (upd g 10 (77 : Int32)) (3 : Int32) (a_wi ((g 0) + 60) 5000 11000) (m_n (3 : Int32))) 1))]) rfl ?_
    have hw_30 : z_wk ln (nI ((m_n n5 + 1) % 6)) (nI (if m_n c5 < 6 then m_n c5 + 1 else 6)) f0 1 (m_tripC (upd g 10 (77 : Int32)) (3 : Int32) (a_wi ((g 0) + 60) 5000 11000) (m_n (3 : Int32))) ga g (va_up v5 (m_n n5) (upd g 10 (77 : Int32))) := z_wk_save hw_29 (show z_ok (m_tripC (upd g 10 (77 : Int32)) (3 : Int32) (a_wi ((g 0) + 60) 5000 11000) (m_n (3 : Int32))) from z_ok_trip (z_ok_thr hw.1) _)
    obtain ⟨n6, e_n6⟩ : ∃ z, z = (nI ((m_n n5 + 1) % 6)) := ⟨_, rfl⟩
    obtain ⟨c6, e_c6⟩ : ∃ z, z = (nI (if m_n c5 < 6 then m_n c5 + 1 else 6)) := ⟨_, rfl⟩
    obtain ⟨v6, e_v6⟩ : ∃ z, z = (va_up v5 (m_n n5) (upd g 10 (77 : Int32))) := ⟨_, rfl⟩
    have hP : va_P E.1 vwCl ([(z_W E xa na ma mb ad tx ln n6 c6 f0 1 (m_tripC (upd g 10 (77 : Int32)) (3 : Int32) (a_wi ((g 0) + 60) 5000 11000) (m_n (3 : Int32))) ga g v6).flatten] : List va_W).flatten H := by rw [e_n6, e_c6, e_v6]; exact hP
    have hD : va_D A ([(z_W E xa na ma mb ad tx ln n6 c6 f0 1 (m_tripC (upd g 10 (77 : Int32)) (3 : Int32) (a_wi ((g 0) + 60) 5000 11000) (m_n (3 : Int32))) ga g v6).flatten] : List va_W).flatten := by rw [e_n6, e_c6, e_v6]; exact hD
    have hw_31 : z_wk ln n6 c6 f0 1 (m_tripC (upd g 10 (77 : Int32)) (3 : Int32) (a_wi ((g 0) + 60) 5000 11000) (m_n (3 : Int32))) ga g v6 := by rw [e_n6, e_c6, e_v6]; exact hw_30
    refine lv_aload_n hx hb dL_isAhead_244 rfl (lv_at hl 5 rfl) ?_
    have hPc : va_P E.1 vwCl ([(z_W E xa na ma mb ad tx ln n6 c6 f0 1 (m_tripC (upd g 10 (77 : Int32)) (3 : Int32) (a_wi ((g 0) + 60) 5000 11000) (m_n (3 : Int32))) ga g v6).flatten] : List va_W).flatten H := zf_sub hP [0] rfl
    refine z_rdv (va_runV (As := []) (rest := [.int (m_std ((m_tripC (upd g 10 (77 : Int32)) (3 : Int32) (a_wi ((g 0) + 60) 5000 11000) (m_n (3 : Int32))) 0) - m_std ((m_tripC (upd g 10 (77 : Int32)) (3 : Int32) (a_wi ((g 0) + 60) 5000 11000) (m_n (3 : Int32))) 1))]) ⟨hx, hb, hml, hown, hts⟩ (c_X9_altitude l E xa na ma mb ad tx ln n6 c6 f0 1 (m_tripC (upd g 10 (77 : Int32)) (3 : Int32) (a_wi ((g 0) + 60) 5000 11000) (m_n (3 : Int32))) ga g v6 hw_31) (cwV 0 hts gL_isAhead_X9_altitude rfl rfl rfl (by decide +kernel) ⟨Nat.le_of_ble_eq_true rfl, Nat.le_of_ble_eq_true rfl⟩) ⟨zPr.blind, va_recv hK.1 hPc (ci := 8) (q0 := 0) rfl rfl, z_prer hK hPc⟩ rfl rfl hl.1 rfl (lv_room (Nat.le_of_ble_eq_true rfl)) dL_isAhead_245 ⟨Nat.le_of_ble_eq_true rfl, Nat.le_of_ble_eq_true rfl⟩) ?_
    refine W.eq (g2 := F0 Mi 248 ls [.int (m_std ((m_tripC (upd g 10 (77 : Int32)) (3 : Int32) (a_wi ((g 0) + 60) 5000 11000) (m_n (3 : Int32))) 0) - m_std ((m_tripC (upd g 10 (77 : Int32)) (3 : Int32) (a_wi ((g 0) + 60) 5000 11000) (m_n (3 : Int32))) 1)), .int (m_std ((m_tripC (upd g 10 (77 : Int32)) (3 : Int32) (a_wi ((g 0) + 60) 5000 11000) (m_n (3 : Int32))) 0) - m_std ((m_tripC (upd g 10 (77 : Int32)) (3 : Int32) (a_wi ((g 0) + 60) 5000 11000) (m_n (3 : Int32))) 1))]) rfl ?_
    refine lv_icmp_ne (tgt := 274) hx hb dL_isAhead_248 (by decide) (fun h9 => absurd (rfl) h9) (fun _ => ?_)
    refine lv_aload_n hx hb dL_isAhead_251 rfl (lv_at hl 5 rfl) ?_
    refine lv_iconst (v := 1) hx hb dL_isAhead_252 (by decide) ?_
    have ph_253 : ((0 : Int32) ≤ 1 ∧ (1 : Int32) ≤ 1) ∧ ¬ (1 : Int32) = 0 := ⟨⟨by decide, by decide⟩, by decide⟩
    have hPc : va_P E.1 vwCl ([(z_W E xa na ma mb ad tx ln n6 c6 f0 1 (m_tripC (upd g 10 (77 : Int32)) (3 : Int32) (a_wi ((g 0) + 60) 5000 11000) (m_n (3 : Int32))) ga g v6).flatten] : List va_W).flatten H := zf_sub hP [0] rfl
    have hDc : va_D A ([(z_W E xa na ma mb ad tx ln n6 c6 f0 1 (m_tripC (upd g 10 (77 : Int32)) (3 : Int32) (a_wi ((g 0) + 60) 5000 11000) (m_n (3 : Int32))) ga g v6).flatten] : List va_W).flatten := zf_subD hD [0] (by decide) rfl
    refine z_xmut (Sc := [(z_W E xa na ma mb ad tx ln n6 c6 f0 1 (m_tripC (upd g 10 (77 : Int32)) (3 : Int32) (a_wi ((g 0) + 60) 5000 11000) (m_n (3 : Int32))) ga g v6).flatten]) (Sr := []) (W1 := [(z_W E xa na ma mb ad tx ln (nI ((m_n n6 + 1) % 6)) (nI (if m_n c6 < 6 then m_n c6 + 1 else 6)) f0 1 g ga g (va_up v6 (m_n n6) (m_tripC (upd g 10 (77 : Int32)) (3 : Int32) (a_wi ((g 0) + 60) 5000 11000) (m_n (3 : Int32))))).flatten]) (vx_runV (As := [.int 1]) (rest := []) ⟨hx, hb, hml, hown, hts⟩ (c_X9_recall1 l E sa hl0 xa na ma mb ad tx ln n6 c6 f0 1 (m_tripC (upd g 10 (77 : Int32)) (3 : Int32) (a_wi ((g 0) + 60) 5000 11000) (m_n (3 : Int32))) ga g v6 hw_31 H.size) (cwV 1 hts gL_isAhead_X9_recall rfl rfl rfl (by decide +kernel) ⟨Nat.le_of_ble_eq_true rfl, Nat.le_of_ble_eq_true rfl⟩) ⟨zPE.blind, va_recv hK.1 hPc (ci := 8) (q0 := 0) rfl rfl, z_preE hK hT hZ hS (zf_free hD hS hA [0] rfl) hPc hDc⟩ rfl rfl hl.1 rfl (lv_room (Nat.le_of_ble_eq_true rfl)) dL_isAhead_253 ⟨Nat.le_of_ble_eq_true rfl, Nat.le_of_ble_eq_true rfl⟩) hP hD hS hA [0] [] rfl rfl (by decide) (by decide) (fun Ex ce q9 H locs hps hP hD hS hce hcv hcl => ?_) (fun H locs _ hP hD hS => ?_)
    · exact (hps.elim (fun z => absurd ph_253.1 z.2) (fun z => absurd z.2.2 ph_253.2))
    have hP : va_P E.1 vwCl ([(z_W E xa na ma mb ad tx ln (nI ((m_n n6 + 1) % 6)) (nI (if m_n c6 < 6 then m_n c6 + 1 else 6)) f0 1 g ga g (va_up v6 (m_n n6) (m_tripC (upd g 10 (77 : Int32)) (3 : Int32) (a_wi ((g 0) + 60) 5000 11000) (m_n (3 : Int32))))).flatten] : List va_W).flatten H := hP
    have hD : va_D A ([(z_W E xa na ma mb ad tx ln (nI ((m_n n6 + 1) % 6)) (nI (if m_n c6 < 6 then m_n c6 + 1 else 6)) f0 1 g ga g (va_up v6 (m_n n6) (m_tripC (upd g 10 (77 : Int32)) (3 : Int32) (a_wi ((g 0) + 60) 5000 11000) (m_n (3 : Int32))))).flatten] : List va_W).flatten := hD
    refine W.widen (k := 7) (n := 42) (by decide) (by decide) ?_
    refine W.eq (g2 := F0 Mi 256 ls [.int (m_std (g 0) - m_std (g 1))]) rfl ?_
    have hw_32 : z_wk ln (nI ((m_n n6 + 1) % 6)) (nI (if m_n c6 < 6 then m_n c6 + 1 else 6)) f0 1 g ga g (va_up v6 (m_n n6) (m_tripC (upd g 10 (77 : Int32)) (3 : Int32) (a_wi ((g 0) + 60) 5000 11000) (m_n (3 : Int32)))) := z_wk_save hw_31 (show z_ok g from hw.1)
    obtain ⟨n7, e_n7⟩ : ∃ z, z = (nI ((m_n n6 + 1) % 6)) := ⟨_, rfl⟩
    obtain ⟨c7, e_c7⟩ : ∃ z, z = (nI (if m_n c6 < 6 then m_n c6 + 1 else 6)) := ⟨_, rfl⟩
    obtain ⟨v7, e_v7⟩ : ∃ z, z = (va_up v6 (m_n n6) (m_tripC (upd g 10 (77 : Int32)) (3 : Int32) (a_wi ((g 0) + 60) 5000 11000) (m_n (3 : Int32)))) := ⟨_, rfl⟩
    have hP : va_P E.1 vwCl ([(z_W E xa na ma mb ad tx ln n7 c7 f0 1 g ga g v7).flatten] : List va_W).flatten H := by rw [e_n7, e_c7, e_v7]; exact hP
    have hD : va_D A ([(z_W E xa na ma mb ad tx ln n7 c7 f0 1 g ga g v7).flatten] : List va_W).flatten := by rw [e_n7, e_c7, e_v7]; exact hD
    have hw_33 : z_wk ln n7 c7 f0 1 g ga g v7 := by rw [e_n7, e_c7, e_v7]; exact hw_32
    refine lv_iload hx hb dL_isAhead_256 (lv_at hl 0 rfl) ?_
    refine lv_icmp_ne (tgt := 274) hx hb dL_isAhead_258 (by decide) (fun h9 => absurd (rfl) h9) (fun _ => ?_)
    refine lv_aload_n hx hb dL_isAhead_261 rfl (lv_at hl 5 rfl) ?_
    have hPc : va_P E.1 vwCl ([(z_W E xa na ma mb ad tx ln n7 c7 f0 1 g ga g v7).flatten] : List va_W).flatten H := zf_sub hP [0] rfl
    refine z_rdv (va_runV (As := []) (rest := []) ⟨hx, hb, hml, hown, hts⟩ (c_X9_digest l E xa na ma mb ad tx ln n7 c7 f0 1 g ga g v7 hw_33) (cwV 0 hts gL_isAhead_X9_digest rfl rfl rfl (by decide +kernel) ⟨Nat.le_of_ble_eq_true rfl, Nat.le_of_ble_eq_true rfl⟩) ⟨zPr.blind, va_recv hK.1 hPc (ci := 8) (q0 := 0) rfl rfl, z_prer hK hPc⟩ rfl rfl hl.1 rfl (lv_room (Nat.le_of_ble_eq_true rfl)) dL_isAhead_262 ⟨Nat.le_of_ble_eq_true rfl, Nat.le_of_ble_eq_true rfl⟩) ?_
    refine W.eq (g2 := F0 Mi 265 ls [.long (m_dg g)]) rfl ?_
    refine lv_lload_n hx hb dL_isAhead_265 rfl (lv_at hl 4 rfl) ?_
    refine W.lcmp hx hb dL_isAhead_266 ?_
    refine lv_if_ne (tgt := 274) hx hb dL_isAhead_267 (by decide) (fun h9 => absurd (z_lcs _) h9) (fun _ => ?_)
    refine lv_iconst (v := 1) hx hb dL_isAhead_270 (by decide) ?_
    refine lv_goto (tgt := 275) hx hb dL_isAhead_271 (by decide) ?_
    refine lv_istore (lv' := [(5, .int 1), (7, .int (m_std (g 0) - m_std (g 1))), (6, .int (g 0)), (4, .int (-1)), (2, .long (m_dg g)), (0, .ref (xa 0)), (1, .int x)]) hx hb dL_isAhead_275 hl (by decide) rfl (fun ls hl => ?_)
    refine lv_iload hx hb dL_isAhead_277 (lv_at hl 0 rfl) ?_
    refine lv_if_eq (tgt := 316) hx hb dL_isAhead_279 (by decide) (fun h9 => absurd h9 ((by decide))) (fun _ => ?_)
    refine lv_aload_n hx hb dL_isAhead_282 rfl (lv_at hl 5 rfl) ?_
    have L5 := r_lo1 (r_lo0 hw.2.2.1) (by decide) e_c5
    have L6 := r_lo1 L5 (by decide) e_c6
    have L7 := r_lo1 L6 (by decide) e_c7
    have ph_283 : ¬ c7 = 0 := r_ne L7
    have hPc : va_P E.1 vwCl ([(z_W E xa na ma mb ad tx ln n7 c7 f0 1 g ga g v7).flatten] : List va_W).flatten H := zf_sub hP [0] rfl
    have hDc : va_D A ([(z_W E xa na ma mb ad tx ln n7 c7 f0 1 g ga g v7).flatten] : List va_W).flatten := zf_subD hD [0] (by decide) rfl
    refine z_xmut (Sc := [(z_W E xa na ma mb ad tx ln n7 c7 f0 1 g ga g v7).flatten]) (Sr := []) (W1 := [(z_W E xa na ma mb ad tx ln n6 (nI (m_n c7 - 1)) f0 1 (m_tripC (upd g 10 (77 : Int32)) (3 : Int32) (a_wi ((g 0) + 60) 5000 11000) (m_n (3 : Int32))) ga g v7).flatten]) (vx_runV (As := []) (rest := []) ⟨hx, hb, hml, hown, hts⟩ (c_X9_undoG l E sa hl0 xa na ma mb ad tx ln n7 c7 f0 1 g ga g v7 hw_33 (r_e1 hw_31.2.1 e_n7) (r_e2 hw_31.2.1 e_n7 e_v7) H.size) (cwV 0 hts gL_isAhead_X9_undo rfl rfl rfl (by decide +kernel) ⟨Nat.le_of_ble_eq_true rfl, Nat.le_of_ble_eq_true rfl⟩) ⟨zPE.blind, va_recv hK.1 hPc (ci := 8) (q0 := 0) rfl rfl, z_preE hK hT hZ hS (zf_free hD hS hA [0] rfl) hPc hDc⟩ rfl rfl hl.1 rfl (lv_room (Nat.le_of_ble_eq_true rfl)) dL_isAhead_283 ⟨Nat.le_of_ble_eq_true rfl, Nat.le_of_ble_eq_true rfl⟩) hP hD hS hA [0] [] rfl rfl (by decide) (by decide) (fun Ex ce q9 H locs hps hP hD hS hce hcv hcl => ?_) (fun H locs _ hP hD hS => ?_)
    · exact (absurd hps.2 ph_283)
    have hP : va_P E.1 vwCl ([(z_W E xa na ma mb ad tx ln n6 (nI (m_n c7 - 1)) f0 1 (m_tripC (upd g 10 (77 : Int32)) (3 : Int32) (a_wi ((g 0) + 60) 5000 11000) (m_n (3 : Int32))) ga g v7).flatten] : List va_W).flatten H := hP
    have hD : va_D A ([(z_W E xa na ma mb ad tx ln n6 (nI (m_n c7 - 1)) f0 1 (m_tripC (upd g 10 (77 : Int32)) (3 : Int32) (a_wi ((g 0) + 60) 5000 11000) (m_n (3 : Int32))) ga g v7).flatten] : List va_W).flatten := hD
    refine W.widen (k := 8) (n := 48) (by decide) (by decide) ?_
    refine W.eq (g2 := F0 Mi 286 ls [.int (nI (m_n c7 - 1))]) rfl ?_
    have hw_34 : z_wk ln n6 (nI (m_n c7 - 1)) f0 1 (m_tripC (upd g 10 (77 : Int32)) (3 : Int32) (a_wi ((g 0) + 60) 5000 11000) (m_n (3 : Int32))) ga g v7 := r_wku hw_33 (r_e1 hw_31.2.1 e_n7) (r_e2 hw_31.2.1 e_n7 e_v7) rfl (z_ok_trip (z_ok_thr hw.1) _)
    obtain ⟨c8, e_c8⟩ : ∃ z, z = (nI (m_n c7 - 1)) := ⟨_, rfl⟩
    have hP : va_P E.1 vwCl ([(z_W E xa na ma mb ad tx ln n6 c8 f0 1 (m_tripC (upd g 10 (77 : Int32)) (3 : Int32) (a_wi ((g 0) + 60) 5000 11000) (m_n (3 : Int32))) ga g v7).flatten] : List va_W).flatten H := by rw [e_c8]; exact hP
    have hD : va_D A ([(z_W E xa na ma mb ad tx ln n6 c8 f0 1 (m_tripC (upd g 10 (77 : Int32)) (3 : Int32) (a_wi ((g 0) + 60) 5000 11000) (m_n (3 : Int32))) ga g v7).flatten] : List va_W).flatten := by rw [e_c8]; exact hD
    have hw_35 : z_wk ln n6 c8 f0 1 (m_tripC (upd g 10 (77 : Int32)) (3 : Int32) (a_wi ((g 0) + 60) 5000 11000) (m_n (3 : Int32))) ga g v7 := by rw [e_c8]; exact hw_34
    refine lv_if_lt (tgt := 316) hx hb dL_isAhead_286 (by decide) (fun h9 => absurd h9 (r_nn c7)) (fun _ => ?_)
    refine lv_aload_n hx hb dL_isAhead_289 rfl (lv_at hl 5 rfl) ?_
    have L8 := r_lo2 L7 e_c8
    have eu2 : v7 ((m_n n6 + 5) % 6) = (upd g 10 (77 : Int32)) := by rw [r_u1 hw_29.2.1 e_n6, e_v7, r_vn _ _ (r_ne1 hw_29.2.1 e_n6), e_v6, r_vs]
    have ph_290 : ¬ c8 = 0 := r_ne L8
    have hPc : va_P E.1 vwCl ([(z_W E xa na ma mb ad tx ln n6 c8 f0 1 (m_tripC (upd g 10 (77 : Int32)) (3 : Int32) (a_wi ((g 0) + 60) 5000 11000) (m_n (3 : Int32))) ga g v7).flatten] : List va_W).flatten H := zf_sub hP [0] rfl
    have hDc : va_D A ([(z_W E xa na ma mb ad tx ln n6 c8 f0 1 (m_tripC (upd g 10 (77 : Int32)) (3 : Int32) (a_wi ((g 0) + 60) 5000 11000) (m_n (3 : Int32))) ga g v7).flatten] : List va_W).flatten := zf_subD hD [0] (by decide) rfl
    refine z_xmut (Sc := [(z_W E xa na ma mb ad tx ln n6 c8 f0 1 (m_tripC (upd g 10 (77 : Int32)) (3 : Int32) (a_wi ((g 0) + 60) 5000 11000) (m_n (3 : Int32))) ga g v7).flatten]) (Sr := []) (W1 := [(z_W E xa na ma mb ad tx ln n5 (nI (m_n c8 - 1)) f0 1 (upd g 10 (77 : Int32)) ga g v7).flatten]) (vx_runV (As := []) (rest := []) ⟨hx, hb, hml, hown, hts⟩ (c_X9_undoG l E sa hl0 xa na ma mb ad tx ln n6 c8 f0 1 (m_tripC (upd g 10 (77 : Int32)) (3 : Int32) (a_wi ((g 0) + 60) 5000 11000) (m_n (3 : Int32))) ga g v7 hw_35 (r_e1 hw_29.2.1 e_n6) eu2 H.size) (cwV 0 hts gL_isAhead_X9_undo rfl rfl rfl (by decide +kernel) ⟨Nat.le_of_ble_eq_true rfl, Nat.le_of_ble_eq_true rfl⟩) ⟨zPE.blind, va_recv hK.1 hPc (ci := 8) (q0 := 0) rfl rfl, z_preE hK hT hZ hS (zf_free hD hS hA [0] rfl) hPc hDc⟩ rfl rfl hl.1 rfl (lv_room (Nat.le_of_ble_eq_true rfl)) dL_isAhead_290 ⟨Nat.le_of_ble_eq_true rfl, Nat.le_of_ble_eq_true rfl⟩) hP hD hS hA [0] [] rfl rfl (by decide) (by decide) (fun Ex ce q9 H locs hps hP hD hS hce hcv hcl => ?_) (fun H locs _ hP hD hS => ?_)
    · exact (absurd hps.2 ph_290)
    have hP : va_P E.1 vwCl ([(z_W E xa na ma mb ad tx ln n5 (nI (m_n c8 - 1)) f0 1 (upd g 10 (77 : Int32)) ga g v7).flatten] : List va_W).flatten H := hP
    have hD : va_D A ([(z_W E xa na ma mb ad tx ln n5 (nI (m_n c8 - 1)) f0 1 (upd g 10 (77 : Int32)) ga g v7).flatten] : List va_W).flatten := hD
    refine W.widen (k := 9) (n := 54) (by decide) (by decide) ?_
    refine W.eq (g2 := F0 Mi 293 ls [.int (nI (m_n c8 - 1))]) rfl ?_
    have hw_36 : z_wk ln n5 (nI (m_n c8 - 1)) f0 1 (upd g 10 (77 : Int32)) ga g v7 := r_wku hw_35 (r_e1 hw_29.2.1 e_n6) eu2 rfl (z_ok_thr hw.1)
    obtain ⟨c9, e_c9⟩ : ∃ z, z = (nI (m_n c8 - 1)) := ⟨_, rfl⟩
    have hP : va_P E.1 vwCl ([(z_W E xa na ma mb ad tx ln n5 c9 f0 1 (upd g 10 (77 : Int32)) ga g v7).flatten] : List va_W).flatten H := by rw [e_c9]; exact hP
    have hD : va_D A ([(z_W E xa na ma mb ad tx ln n5 c9 f0 1 (upd g 10 (77 : Int32)) ga g v7).flatten] : List va_W).flatten := by rw [e_c9]; exact hD
    have hw_37 : z_wk ln n5 c9 f0 1 (upd g 10 (77 : Int32)) ga g v7 := by rw [e_c9]; exact hw_36
    refine lv_if_lt (tgt := 316) hx hb dL_isAhead_293 (by decide) (fun h9 => absurd h9 (r_nn c8)) (fun _ => ?_)
    refine lv_aload_n hx hb dL_isAhead_296 rfl (lv_at hl 5 rfl) ?_
    have L9 := r_lo2 L8 e_c9
    have eu3 : v7 ((m_n n5 + 5) % 6) = g := by rw [r_u1 hw.2.1 e_n5, e_v7, r_vn _ _ (r_ne2 hw.2.1 e_n5 e_n6), e_v6, r_vn _ _ (r_ne1 hw.2.1 e_n5), e_v5, r_vs]
    have ph_297 : ¬ c9 = 0 := r_ne L9
    have hPc : va_P E.1 vwCl ([(z_W E xa na ma mb ad tx ln n5 c9 f0 1 (upd g 10 (77 : Int32)) ga g v7).flatten] : List va_W).flatten H := zf_sub hP [0] rfl
    have hDc : va_D A ([(z_W E xa na ma mb ad tx ln n5 c9 f0 1 (upd g 10 (77 : Int32)) ga g v7).flatten] : List va_W).flatten := zf_subD hD [0] (by decide) rfl
    refine z_xmut (Sc := [(z_W E xa na ma mb ad tx ln n5 c9 f0 1 (upd g 10 (77 : Int32)) ga g v7).flatten]) (Sr := []) (W1 := [(z_W E xa na ma mb ad tx ln nx (nI (m_n c9 - 1)) f0 1 g ga g v7).flatten]) (vx_runV (As := []) (rest := []) ⟨hx, hb, hml, hown, hts⟩ (c_X9_undoG l E sa hl0 xa na ma mb ad tx ln n5 c9 f0 1 (upd g 10 (77 : Int32)) ga g v7 hw_37 (r_e1 hw.2.1 e_n5) eu3 H.size) (cwV 0 hts gL_isAhead_X9_undo rfl rfl rfl (by decide +kernel) ⟨Nat.le_of_ble_eq_true rfl, Nat.le_of_ble_eq_true rfl⟩) ⟨zPE.blind, va_recv hK.1 hPc (ci := 8) (q0 := 0) rfl rfl, z_preE hK hT hZ hS (zf_free hD hS hA [0] rfl) hPc hDc⟩ rfl rfl hl.1 rfl (lv_room (Nat.le_of_ble_eq_true rfl)) dL_isAhead_297 ⟨Nat.le_of_ble_eq_true rfl, Nat.le_of_ble_eq_true rfl⟩) hP hD hS hA [0] [] rfl rfl (by decide) (by decide) (fun Ex ce q9 H locs hps hP hD hS hce hcv hcl => ?_) (fun H locs _ hP hD hS => ?_)
    · exact (absurd hps.2 ph_297)
    have hP : va_P E.1 vwCl ([(z_W E xa na ma mb ad tx ln nx (nI (m_n c9 - 1)) f0 1 g ga g v7).flatten] : List va_W).flatten H := hP
    have hD : va_D A ([(z_W E xa na ma mb ad tx ln nx (nI (m_n c9 - 1)) f0 1 g ga g v7).flatten] : List va_W).flatten := hD
    refine W.widen (k := 10) (n := 60) (by decide) (by decide) ?_
    refine W.eq (g2 := F0 Mi 300 ls [.int (nI (m_n c9 - 1))]) rfl ?_
    have hw_38 : z_wk ln nx (nI (m_n c9 - 1)) f0 1 g ga g v7 := r_wku hw_37 (r_e1 hw.2.1 e_n5) eu3 rfl hw.1
    obtain ⟨c10, e_c10⟩ : ∃ z, z = (nI (m_n c9 - 1)) := ⟨_, rfl⟩
    have hP : va_P E.1 vwCl ([(z_W E xa na ma mb ad tx ln nx c10 f0 1 g ga g v7).flatten] : List va_W).flatten H := by rw [e_c10]; exact hP
    have hD : va_D A ([(z_W E xa na ma mb ad tx ln nx c10 f0 1 g ga g v7).flatten] : List va_W).flatten := by rw [e_c10]; exact hD
    have hw_39 : z_wk ln nx c10 f0 1 g ga g v7 := by rw [e_c10]; exact hw_38
    refine lv_if_lt (tgt := 316) hx hb dL_isAhead_300 (by decide) (fun h9 => absurd h9 (r_nn c9)) (fun _ => ?_)
    refine lv_aload_n hx hb dL_isAhead_303 rfl (lv_at hl 5 rfl) ?_
    have hPc : va_P E.1 vwCl ([(z_W E xa na ma mb ad tx ln nx c10 f0 1 g ga g v7).flatten] : List va_W).flatten H := zf_sub hP [0] rfl
    refine z_rdv (va_runV (As := []) (rest := []) ⟨hx, hb, hml, hown, hts⟩ (c_X9_digest l E xa na ma mb ad tx ln nx c10 f0 1 g ga g v7 hw_39) (cwV 0 hts gL_isAhead_X9_digest rfl rfl rfl (by decide +kernel) ⟨Nat.le_of_ble_eq_true rfl, Nat.le_of_ble_eq_true rfl⟩) ⟨zPr.blind, va_recv hK.1 hPc (ci := 8) (q0 := 0) rfl rfl, z_prer hK hPc⟩ rfl rfl hl.1 rfl (lv_room (Nat.le_of_ble_eq_true rfl)) dL_isAhead_304 ⟨Nat.le_of_ble_eq_true rfl, Nat.le_of_ble_eq_true rfl⟩) ?_
    refine W.eq (g2 := F0 Mi 307 ls [.long (m_dg g)]) rfl ?_
    refine lv_lload_n hx hb dL_isAhead_307 rfl (lv_at hl 4 rfl) ?_
    refine W.lcmp hx hb dL_isAhead_308 ?_
    refine lv_if_ne (tgt := 316) hx hb dL_isAhead_309 (by decide) (fun h9 => absurd (z_lcs _) h9) (fun _ => ?_)
    refine lv_iconst (v := 1) hx hb dL_isAhead_312 (by decide) ?_
    refine lv_goto (tgt := 317) hx hb dL_isAhead_313 (by decide) ?_
    refine W.widen (k := 16) (n := 96) (by decide) (by decide) ?_
    refine vx_ret ?_
    exact W.zret (v := 1) hx hb hr rfl (z_endy (c10, v7) hw_39 hP hD hS rfl) hS.2.2 dL_isAhead_317 hlocks
  · by_cases hi : i = 1
    · refine lv_aload_n hx hb dL_isAhead_0 rfl (lv_at hl 0 rfl) ?_
      have hPc : va_P E.1 vwCl ([(z_W E xa na ma mb ad tx ln nx ct f0 f1 g ga gb v).flatten] : List va_W).flatten H := zf_sub hP [0] rfl
      refine z_rdv (va_runV (As := []) (rest := []) ⟨hx, hb, hml, hown, hts⟩ (c_X9_digest l E xa na ma mb ad tx ln nx ct f0 f1 g ga gb v hw) (cwV 0 hts gL_isAhead_X9_digest rfl rfl rfl (by decide +kernel) ⟨Nat.le_of_ble_eq_true rfl, Nat.le_of_ble_eq_true rfl⟩) ⟨zPr.blind, va_recv hK.1 hPc (ci := 8) (q0 := 0) rfl rfl, z_prer hK hPc⟩ rfl rfl hl.1 rfl (lv_room (Nat.le_of_ble_eq_true rfl)) dL_isAhead_1 ⟨Nat.le_of_ble_eq_true rfl, Nat.le_of_ble_eq_true rfl⟩) ?_
      refine W.eq (g2 := F0 Mi 4 ls [.long (m_dg g)]) rfl ?_
      refine lv_lstore_n (lv' := [(2, .long (m_dg g)), (0, .ref (xa 0)), (1, .int x)]) hx hb dL_isAhead_4 rfl hl (by decide) rfl (fun ls hl => ?_)
      refine lv_aload_n hx hb dL_isAhead_5 rfl (lv_at hl 1 rfl) ?_
      refine lv_iload_n hx hb dL_isAhead_6 rfl (lv_at hl 2 rfl) ?_
      have ph_7 : 1 ≤ x ∧ x ≤ 20 := ⟨by rw [hxe]; exact nI_le (a := 1) he1 (by omega), by rw [hxe]; exact nI_le (b := 20) he2 (by decide)⟩
      have hPc : va_P E.1 vwCl ([(z_W E xa na ma mb ad tx ln nx ct f0 f1 g ga gb v).flatten] : List va_W).flatten H := zf_sub hP [0] rfl
      have hDc : va_D A ([(z_W E xa na ma mb ad tx ln nx ct f0 f1 g ga gb v).flatten] : List va_W).flatten := zf_subD hD [0] (by decide) rfl
      refine z_xmut (Sc := [(z_W E xa na ma mb ad tx ln nx ct f0 f1 g ga gb v).flatten]) (Sr := []) (W1 := [(z_W E xa na ma mb ad tx ln nx ct f0 f1 g ga gb v).flatten]) (vx_runV (As := [.int x]) (rest := []) ⟨hx, hb, hml, hown, hts⟩ (c_X9_minutesToAlarm l E sa hl0 xa na ma mb ad tx ln nx ct f0 f1 g ga gb v hw x H.size) (cwV 1 hts gL_isAhead_X9_minutesToAlarm rfl rfl rfl (by decide +kernel) ⟨Nat.le_of_ble_eq_true rfl, Nat.le_of_ble_eq_true rfl⟩) ⟨zPE.blind, va_recv hK.1 hPc (ci := 8) (q0 := 0) rfl rfl, z_preE hK hT hZ hS (zf_free hD hS hA [0] rfl) hPc hDc⟩ rfl rfl hl.1 rfl (lv_room (Nat.le_of_ble_eq_true rfl)) dL_isAhead_7 ⟨Nat.le_of_ble_eq_true rfl, Nat.le_of_ble_eq_true rfl⟩) hP hD hS hA [0] [] rfl rfl (by decide) (by decide) (fun Ex ce q9 H locs hps hP hD hS hce hcv hcl => ?_) (fun H locs _ hP hD hS => ?_)
      · exact (absurd ph_7 hps.2)
      have hP : va_P E.1 vwCl ([(z_W E xa na ma mb ad tx ln nx ct f0 f1 g ga gb v).flatten] : List va_W).flatten H := hP
      have hD : va_D A ([(z_W E xa na ma mb ad tx ln nx ct f0 f1 g ga gb v).flatten] : List va_W).flatten := hD
      refine W.widen (k := 1) (n := 6) (by decide) (by decide) ?_
      refine W.eq (g2 := F0 Mi 10 ls [.int (m_muC g x)]) rfl ?_
      refine z_topi (y := nI i) ek ?_
      refine lv_istore (lv' := [(4, .int (nI i)), (2, .long (m_dg g)), (0, .ref (xa 0)), (1, .int x)]) hx hb dL_isAhead_10 hl (by decide) rfl (fun ls hl => ?_)
      refine lv_aload_n hx hb dL_isAhead_12 rfl (lv_at hl 2 rfl) ?_
      have hPc : va_P E.1 vwCl ([(z_W E xa na ma mb ad tx ln nx ct f0 f1 g ga gb v).flatten] : List va_W).flatten H := zf_sub hP [0] rfl
      refine z_rdv (va_runV (As := []) (rest := []) ⟨hx, hb, hml, hown, hts⟩ (c_X9_isStation l E xa na ma mb ad tx ln nx ct f0 f1 g ga gb v hw) (cwV 0 hts gL_isAhead_X9_isStation rfl rfl rfl (by decide +kernel) ⟨Nat.le_of_ble_eq_true rfl, Nat.le_of_ble_eq_true rfl⟩) ⟨zPr.blind, va_recv hK.1 hPc (ci := 8) (q0 := 0) rfl rfl, z_prer hK hPc⟩ rfl rfl hl.1 rfl (lv_room (Nat.le_of_ble_eq_true rfl)) dL_isAhead_13 ⟨Nat.le_of_ble_eq_true rfl, Nat.le_of_ble_eq_true rfl⟩) ?_
      refine W.eq (g2 := F0 Mi 16 ls [.int (g 2)]) rfl ?_
      refine lv_if_ne (tgt := 25) hx hb dL_isAhead_16 (by decide) (fun _ => ?_) (fun h9 => absurd h9 (c2))
      refine lv_iload hx hb dL_isAhead_25 (lv_at hl 0 rfl) ?_
      refine lv_if_ne (tgt := 34) hx hb dL_isAhead_27 (by decide) (fun _ => ?_) (fun h9 => absurd h9 (nI_ne0 (by omega) (by omega)))
      refine lv_iconst (v := 0) hx hb dL_isAhead_34 (by decide) ?_
      refine lv_aload_n hx hb dL_isAhead_35 rfl (lv_at hl 2 rfl) ?_
      have hPc : va_P E.1 vwCl ([(z_W E xa na ma mb ad tx ln nx ct f0 f1 g ga gb v).flatten] : List va_W).flatten H := zf_sub hP [0] rfl
      refine z_rdv (va_runV (As := []) (rest := [.int 0]) ⟨hx, hb, hml, hown, hts⟩ (c_X9_isStation l E xa na ma mb ad tx ln nx ct f0 f1 g ga gb v hw) (cwV 0 hts gL_isAhead_X9_isStation rfl rfl rfl (by decide +kernel) ⟨Nat.le_of_ble_eq_true rfl, Nat.le_of_ble_eq_true rfl⟩) ⟨zPr.blind, va_recv hK.1 hPc (ci := 8) (q0 := 0) rfl rfl, z_prer hK hPc⟩ rfl rfl hl.1 rfl (lv_room (Nat.le_of_ble_eq_true rfl)) dL_isAhead_36 ⟨Nat.le_of_ble_eq_true rfl, Nat.le_of_ble_eq_true rfl⟩) ?_
      refine W.eq (g2 := F0 Mi 39 ls [.int (g 2), .int 0]) rfl ?_
      refine lv_if_eq (tgt := 53) hx hb dL_isAhead_39 (by decide) (fun h9 => absurd h9 (c2)) (fun _ => ?_)
      refine lv_aload_n hx hb dL_isAhead_42 rfl (lv_at hl 2 rfl) ?_
      have hPc : va_P E.1 vwCl ([(z_W E xa na ma mb ad tx ln nx ct f0 f1 g ga gb v).flatten] : List va_W).flatten H := zf_sub hP [0] rfl
      refine z_rdv (va_runV (As := []) (rest := [.int 0]) ⟨hx, hb, hml, hown, hts⟩ (c_X9_isAlarm l E xa na ma mb ad tx ln nx ct f0 f1 g ga gb v hw) (cwV 0 hts gL_isAhead_X9_isAlarm rfl rfl rfl (by decide +kernel) ⟨Nat.le_of_ble_eq_true rfl, Nat.le_of_ble_eq_true rfl⟩) ⟨zPr.blind, va_recv hK.1 hPc (ci := 8) (q0 := 0) rfl rfl, z_prer hK hPc⟩ rfl rfl hl.1 rfl (lv_room (Nat.le_of_ble_eq_true rfl)) dL_isAhead_43 ⟨Nat.le_of_ble_eq_true rfl, Nat.le_of_ble_eq_true rfl⟩) ?_
      refine W.eq (g2 := F0 Mi 46 ls [.int (m_al (m_n (g 14)) (m_log g) (g 11)), .int 0]) rfl ?_
      refine lv_if_eq (tgt := 53) hx hb dL_isAhead_46 (by decide) (fun _ => ?_) (fun h9 => absurd (ca) h9)
      refine lv_iconst (v := 0) hx hb dL_isAhead_53 (by decide) ?_
      refine lv_icmp_ne (tgt := 61) hx hb dL_isAhead_54 (by decide) (fun h9 => absurd ((by decide)) h9) (fun _ => ?_)
      refine lv_iconst (v := 1) hx hb dL_isAhead_57 (by decide) ?_
      refine lv_goto (tgt := 62) hx hb dL_isAhead_58 (by decide) ?_
      refine lv_istore (lv' := [(5, .int 1), (4, .int (nI i)), (2, .long (m_dg g)), (0, .ref (xa 0)), (1, .int x)]) hx hb dL_isAhead_62 hl (by decide) rfl (fun ls hl => ?_)
      refine lv_aload_n hx hb dL_isAhead_64 rfl (lv_at hl 3 rfl) ?_
      have hPc : va_P E.1 vwCl ([(z_W E xa na ma mb ad tx ln nx ct f0 f1 g ga gb v).flatten] : List va_W).flatten H := zf_sub hP [0] rfl
      refine z_rdv (va_runV (As := []) (rest := []) ⟨hx, hb, hml, hown, hts⟩ (c_X9_pressure l E xa na ma mb ad tx ln nx ct f0 f1 g ga gb v hw) (cwV 0 hts gL_isAhead_X9_pressure rfl rfl rfl (by decide +kernel) ⟨Nat.le_of_ble_eq_true rfl, Nat.le_of_ble_eq_true rfl⟩) ⟨zPr.blind, va_recv hK.1 hPc (ci := 8) (q0 := 0) rfl rfl, z_prer hK hPc⟩ rfl rfl hl.1 rfl (lv_room (Nat.le_of_ble_eq_true rfl)) dL_isAhead_65 ⟨Nat.le_of_ble_eq_true rfl, Nat.le_of_ble_eq_true rfl⟩) ?_
      refine W.eq (g2 := F0 Mi 68 ls [.int (g 0)]) rfl ?_
      refine lv_istore (lv' := [(6, .int (g 0)), (5, .int 1), (4, .int (nI i)), (2, .long (m_dg g)), (0, .ref (xa 0)), (1, .int x)]) hx hb dL_isAhead_68 hl (by decide) rfl (fun ls hl => ?_)
      refine lv_iload hx hb dL_isAhead_70 (lv_at hl 1 rfl) ?_
      refine lv_if_eq (tgt := 184) hx hb dL_isAhead_72 (by decide) (fun h9 => absurd h9 ((by decide))) (fun _ => ?_)
      refine lv_iload hx hb dL_isAhead_75 (lv_at hl 2 rfl) ?_
      refine lv_if_le (tgt := 184) hx hb dL_isAhead_77 (by decide) (fun h9 => absurd h9 (nI_nle (by omega) (by omega))) (fun _ => ?_)
      refine lv_iload hx hb dL_isAhead_80 (lv_at hl 2 rfl) ?_
      refine lv_bipush (v := 120) hx hb dL_isAhead_82 (by decide) ?_
      refine lv_icmp_gt (tgt := 184) hx hb dL_isAhead_84 (by decide) (fun h9 => absurd h9 (nI_nlt (a := 120) (b := i) (by omega) (by decide))) (fun _ => ?_)
      refine lv_aload_n hx hb dL_isAhead_87 rfl (lv_at hl 4 rfl) ?_
      refine lv_iload hx hb dL_isAhead_88 (lv_at hl 2 rfl) ?_
      refine lv_iload hx hb dL_isAhead_90 (lv_at hl 0 rfl) ?_
      refine lv_iload hx hb dL_isAhead_92 (lv_at hl 2 rfl) ?_
      refine lv_iload_n hx hb dL_isAhead_94 rfl (lv_at hl 5 rfl) ?_
      refine lv_imul hx hb dL_isAhead_95 ?_
      refine lv_isub hx hb dL_isAhead_96 ?_
      have ph_97 : (1 ≤ (nI i) ∧ (nI i) ≤ 120) ∧ (5000 ≤ ((g 0) - ((nI i) * x)) ∧ ((g 0) - ((nI i) * x)) ≤ 11000) := leg
      have hPc : va_P E.1 vwCl ([(z_W E xa na ma mb ad tx ln nx ct f0 f1 g ga gb v).flatten] : List va_W).flatten H := zf_sub hP [0] rfl
      have hDc : va_D A ([(z_W E xa na ma mb ad tx ln nx ct f0 f1 g ga gb v).flatten] : List va_W).flatten := zf_subD hD [0] (by decide) rfl
      refine z_xmut (Sc := [(z_W E xa na ma mb ad tx ln nx ct f0 f1 g ga gb v).flatten]) (Sr := []) (W1 := [(z_W E xa na ma mb ad tx ln (nI ((m_n nx + 1) % 6)) (nI (if m_n ct < 6 then m_n ct + 1 else 6)) f0 f1 (m_tripC g (nI i) ((g 0) - ((nI i) * x)) (m_n (nI i))) ga gb (va_up v (m_n nx) g)).flatten]) (vx_runV (As := [.int (nI i), .int ((g 0) - ((nI i) * x))]) (rest := []) ⟨hx, hb, hml, hown, hts⟩ (c_X9_travel l E sa hl0 xa na ma mb ad tx ln nx ct f0 f1 g ga gb v hw (nI i) ((g 0) - ((nI i) * x)) H.size) (cwV 2 hts gL_isAhead_X9_travel rfl rfl rfl (by decide +kernel) ⟨Nat.le_of_ble_eq_true rfl, Nat.le_of_ble_eq_true rfl⟩) ⟨zPE.blind, va_recv hK.1 hPc (ci := 8) (q0 := 0) rfl rfl, z_preE hK hT hZ hS (zf_free hD hS hA [0] rfl) hPc hDc⟩ rfl rfl hl.1 rfl (lv_room (Nat.le_of_ble_eq_true rfl)) dL_isAhead_97 ⟨Nat.le_of_ble_eq_true rfl, Nat.le_of_ble_eq_true rfl⟩) hP hD hS hA [0] [] rfl rfl (by decide) (by decide) (fun Ex ce q9 H locs hps hP hD hS hce hcv hcl => ?_) (fun H locs _ hP hD hS => ?_)
      · exact (absurd ph_97 hps.2)
      have hP : va_P E.1 vwCl ([(z_W E xa na ma mb ad tx ln (nI ((m_n nx + 1) % 6)) (nI (if m_n ct < 6 then m_n ct + 1 else 6)) f0 f1 (m_tripC g (nI i) ((g 0) - ((nI i) * x)) (m_n (nI i))) ga gb (va_up v (m_n nx) g)).flatten] : List va_W).flatten H := hP
      have hD : va_D A ([(z_W E xa na ma mb ad tx ln (nI ((m_n nx + 1) % 6)) (nI (if m_n ct < 6 then m_n ct + 1 else 6)) f0 f1 (m_tripC g (nI i) ((g 0) - ((nI i) * x)) (m_n (nI i))) ga gb (va_up v (m_n nx) g)).flatten] : List va_W).flatten := hD
      refine W.widen (k := 3) (n := 18) (by decide) (by decide) ?_
      refine W.eq (g2 := F0 Mi 100 ls [.int (m_std ((m_tripC g (nI i) ((g 0) - ((nI i) * x)) (m_n (nI i))) 0) - m_std ((m_tripC g (nI i) ((g 0) - ((nI i) * x)) (m_n (nI i))) 1))]) rfl ?_
      have hw_40 : z_wk ln (nI ((m_n nx + 1) % 6)) (nI (if m_n ct < 6 then m_n ct + 1 else 6)) f0 f1 (m_tripC g (nI i) ((g 0) - ((nI i) * x)) (m_n (nI i))) ga gb (va_up v (m_n nx) g) := z_wk_save hw (show z_ok (m_tripC g (nI i) ((g 0) - ((nI i) * x)) (m_n (nI i))) from z_ok_trip hw.1 _)
      obtain ⟨n1, e_n1⟩ : ∃ z, z = (nI ((m_n nx + 1) % 6)) := ⟨_, rfl⟩
      obtain ⟨c1, e_c1⟩ : ∃ z, z = (nI (if m_n ct < 6 then m_n ct + 1 else 6)) := ⟨_, rfl⟩
      obtain ⟨v1, e_v1⟩ : ∃ z, z = (va_up v (m_n nx) g) := ⟨_, rfl⟩
      have hP : va_P E.1 vwCl ([(z_W E xa na ma mb ad tx ln n1 c1 f0 f1 (m_tripC g (nI i) ((g 0) - ((nI i) * x)) (m_n (nI i))) ga gb v1).flatten] : List va_W).flatten H := by rw [e_n1, e_c1, e_v1]; exact hP
      have hD : va_D A ([(z_W E xa na ma mb ad tx ln n1 c1 f0 f1 (m_tripC g (nI i) ((g 0) - ((nI i) * x)) (m_n (nI i))) ga gb v1).flatten] : List va_W).flatten := by rw [e_n1, e_c1, e_v1]; exact hD
      have hw_41 : z_wk ln n1 c1 f0 f1 (m_tripC g (nI i) ((g 0) - ((nI i) * x)) (m_n (nI i))) ga gb v1 := by rw [e_n1, e_c1, e_v1]; exact hw_40
      refine lv_aload_n hx hb dL_isAhead_100 rfl (lv_at hl 4 rfl) ?_
      have hPc : va_P E.1 vwCl ([(z_W E xa na ma mb ad tx ln n1 c1 f0 f1 (m_tripC g (nI i) ((g 0) - ((nI i) * x)) (m_n (nI i))) ga gb v1).flatten] : List va_W).flatten H := zf_sub hP [0] rfl
      refine z_rdv (va_runV (As := []) (rest := [.int (m_std ((m_tripC g (nI i) ((g 0) - ((nI i) * x)) (m_n (nI i))) 0) - m_std ((m_tripC g (nI i) ((g 0) - ((nI i) * x)) (m_n (nI i))) 1))]) ⟨hx, hb, hml, hown, hts⟩ (c_X9_altitude l E xa na ma mb ad tx ln n1 c1 f0 f1 (m_tripC g (nI i) ((g 0) - ((nI i) * x)) (m_n (nI i))) ga gb v1 hw_41) (cwV 0 hts gL_isAhead_X9_altitude rfl rfl rfl (by decide +kernel) ⟨Nat.le_of_ble_eq_true rfl, Nat.le_of_ble_eq_true rfl⟩) ⟨zPr.blind, va_recv hK.1 hPc (ci := 8) (q0 := 0) rfl rfl, z_prer hK hPc⟩ rfl rfl hl.1 rfl (lv_room (Nat.le_of_ble_eq_true rfl)) dL_isAhead_101 ⟨Nat.le_of_ble_eq_true rfl, Nat.le_of_ble_eq_true rfl⟩) ?_
      refine W.eq (g2 := F0 Mi 104 ls [.int (m_std ((m_tripC g (nI i) ((g 0) - ((nI i) * x)) (m_n (nI i))) 0) - m_std ((m_tripC g (nI i) ((g 0) - ((nI i) * x)) (m_n (nI i))) 1)), .int (m_std ((m_tripC g (nI i) ((g 0) - ((nI i) * x)) (m_n (nI i))) 0) - m_std ((m_tripC g (nI i) ((g 0) - ((nI i) * x)) (m_n (nI i))) 1))]) rfl ?_
      refine lv_icmp_ne (tgt := 125) hx hb dL_isAhead_104 (by decide) (fun h9 => absurd (rfl) h9) (fun _ => ?_)
      refine lv_aload_n hx hb dL_isAhead_107 rfl (lv_at hl 4 rfl) ?_
      have hPc : va_P E.1 vwCl ([(z_W E xa na ma mb ad tx ln n1 c1 f0 f1 (m_tripC g (nI i) ((g 0) - ((nI i) * x)) (m_n (nI i))) ga gb v1).flatten] : List va_W).flatten H := zf_sub hP [0] rfl
      refine z_rdv (va_runV (As := []) (rest := []) ⟨hx, hb, hml, hown, hts⟩ (c_X9_isAlarm l E xa na ma mb ad tx ln n1 c1 f0 f1 (m_tripC g (nI i) ((g 0) - ((nI i) * x)) (m_n (nI i))) ga gb v1 hw_41) (cwV 0 hts gL_isAhead_X9_isAlarm rfl rfl rfl (by decide +kernel) ⟨Nat.le_of_ble_eq_true rfl, Nat.le_of_ble_eq_true rfl⟩) ⟨zPr.blind, va_recv hK.1 hPc (ci := 8) (q0 := 0) rfl rfl, z_prer hK hPc⟩ rfl rfl hl.1 rfl (lv_room (Nat.le_of_ble_eq_true rfl)) dL_isAhead_108 ⟨Nat.le_of_ble_eq_true rfl, Nat.le_of_ble_eq_true rfl⟩) ?_
      refine W.eq (g2 := F0 Mi 111 ls [.int (m_al (m_n ((m_tripC g (nI i) ((g 0) - ((nI i) * x)) (m_n (nI i))) 14)) (m_log (m_tripC g (nI i) ((g 0) - ((nI i) * x)) (m_n (nI i)))) ((m_tripC g (nI i) ((g 0) - ((nI i) * x)) (m_n (nI i))) 11))]) rfl ?_
      refine lv_if_eq (tgt := 125) hx hb dL_isAhead_111 (by decide) (fun h9 => absurd h9 (al1)) (fun _ => ?_)
      refine lv_aload_n hx hb dL_isAhead_114 rfl (lv_at hl 4 rfl) ?_
      have ph_115 : ¬ c1 = 0 := r_ne (r_lo1 (r_lo0 hw.2.2.1) (by decide) e_c1)
      have hPc : va_P E.1 vwCl ([(z_W E xa na ma mb ad tx ln n1 c1 f0 f1 (m_tripC g (nI i) ((g 0) - ((nI i) * x)) (m_n (nI i))) ga gb v1).flatten] : List va_W).flatten H := zf_sub hP [0] rfl
      have hDc : va_D A ([(z_W E xa na ma mb ad tx ln n1 c1 f0 f1 (m_tripC g (nI i) ((g 0) - ((nI i) * x)) (m_n (nI i))) ga gb v1).flatten] : List va_W).flatten := zf_subD hD [0] (by decide) rfl
      refine z_xmut (Sc := [(z_W E xa na ma mb ad tx ln n1 c1 f0 f1 (m_tripC g (nI i) ((g 0) - ((nI i) * x)) (m_n (nI i))) ga gb v1).flatten]) (Sr := []) (W1 := [(z_W E xa na ma mb ad tx ln nx (nI (m_n c1 - 1)) f0 f1 g ga gb v1).flatten]) (vx_runV (As := []) (rest := []) ⟨hx, hb, hml, hown, hts⟩ (c_X9_undoG l E sa hl0 xa na ma mb ad tx ln n1 c1 f0 f1 (m_tripC g (nI i) ((g 0) - ((nI i) * x)) (m_n (nI i))) ga gb v1 hw_41 (r_e1 hw.2.1 e_n1) (r_e2 hw.2.1 e_n1 e_v1) H.size) (cwV 0 hts gL_isAhead_X9_undo rfl rfl rfl (by decide +kernel) ⟨Nat.le_of_ble_eq_true rfl, Nat.le_of_ble_eq_true rfl⟩) ⟨zPE.blind, va_recv hK.1 hPc (ci := 8) (q0 := 0) rfl rfl, z_preE hK hT hZ hS (zf_free hD hS hA [0] rfl) hPc hDc⟩ rfl rfl hl.1 rfl (lv_room (Nat.le_of_ble_eq_true rfl)) dL_isAhead_115 ⟨Nat.le_of_ble_eq_true rfl, Nat.le_of_ble_eq_true rfl⟩) hP hD hS hA [0] [] rfl rfl (by decide) (by decide) (fun Ex ce q9 H locs hps hP hD hS hce hcv hcl => ?_) (fun H locs _ hP hD hS => ?_)
      · exact (absurd hps.2 ph_115)
      have hP : va_P E.1 vwCl ([(z_W E xa na ma mb ad tx ln nx (nI (m_n c1 - 1)) f0 f1 g ga gb v1).flatten] : List va_W).flatten H := hP
      have hD : va_D A ([(z_W E xa na ma mb ad tx ln nx (nI (m_n c1 - 1)) f0 f1 g ga gb v1).flatten] : List va_W).flatten := hD
      refine W.widen (k := 4) (n := 24) (by decide) (by decide) ?_
      refine W.eq (g2 := F0 Mi 118 ls [.int (nI (m_n c1 - 1))]) rfl ?_
      have hw_42 : z_wk ln nx (nI (m_n c1 - 1)) f0 f1 g ga gb v1 := r_wku hw_41 (r_e1 hw.2.1 e_n1) (r_e2 hw.2.1 e_n1 e_v1) rfl hw.1
      obtain ⟨c2, e_c2⟩ : ∃ z, z = (nI (m_n c1 - 1)) := ⟨_, rfl⟩
      have hP : va_P E.1 vwCl ([(z_W E xa na ma mb ad tx ln nx c2 f0 f1 g ga gb v1).flatten] : List va_W).flatten H := by rw [e_c2]; exact hP
      have hD : va_D A ([(z_W E xa na ma mb ad tx ln nx c2 f0 f1 g ga gb v1).flatten] : List va_W).flatten := by rw [e_c2]; exact hD
      have hw_43 : z_wk ln nx c2 f0 f1 g ga gb v1 := by rw [e_c2]; exact hw_42
      refine lv_if_lt (tgt := 125) hx hb dL_isAhead_118 (by decide) (fun h9 => absurd h9 (r_nn c1)) (fun _ => ?_)
      refine lv_iconst (v := 1) hx hb dL_isAhead_121 (by decide) ?_
      refine lv_goto (tgt := 126) hx hb dL_isAhead_122 (by decide) ?_
      refine lv_istore (lv' := [(5, .int 1), (6, .int (g 0)), (4, .int (nI i)), (2, .long (m_dg g)), (0, .ref (xa 0)), (1, .int x)]) hx hb dL_isAhead_126 hl (by decide) rfl (fun ls hl => ?_)
      refine lv_iload hx hb dL_isAhead_128 (lv_at hl 0 rfl) ?_
      refine lv_if_eq (tgt := 181) hx hb dL_isAhead_130 (by decide) (fun h9 => absurd h9 ((by decide))) (fun _ => ?_)
      refine lv_iload hx hb dL_isAhead_133 (lv_at hl 2 rfl) ?_
      refine lv_iconst (v := 1) hx hb dL_isAhead_135 (by decide) ?_
      refine lv_icmp_eq (tgt := 177) hx hb dL_isAhead_136 (by decide) (fun _ => ?_) (fun h9 => absurd ((by rw [hi]; rfl)) h9)
      refine lv_iconst (v := 1) hx hb dL_isAhead_177 (by decide) ?_
      refine lv_goto (tgt := 182) hx hb dL_isAhead_178 (by decide) ?_
      refine lv_istore (lv' := [(5, .int 1), (6, .int (g 0)), (4, .int (nI i)), (2, .long (m_dg g)), (0, .ref (xa 0)), (1, .int x)]) hx hb dL_isAhead_182 hl (by decide) rfl (fun ls hl => ?_)
      refine lv_aload_n hx hb dL_isAhead_184 rfl (lv_at hl 4 rfl) ?_
      refine lv_iconst (v := 1) hx hb dL_isAhead_185 (by decide) ?_
      have ph_186 : (0 : Int32) ≤ 1 ∧ (1 : Int32) ≤ 1 := ⟨by decide, by decide⟩
      have hPc : va_P E.1 vwCl ([(z_W E xa na ma mb ad tx ln nx c2 f0 f1 g ga gb v1).flatten] : List va_W).flatten H := zf_sub hP [0] rfl
      have hDc : va_D A ([(z_W E xa na ma mb ad tx ln nx c2 f0 f1 g ga gb v1).flatten] : List va_W).flatten := zf_subD hD [0] (by decide) rfl
      refine z_xmut (Sc := [(z_W E xa na ma mb ad tx ln nx c2 f0 f1 g ga gb v1).flatten]) (Sr := []) (W1 := [(z_W E xa na ma mb ad tx ln nx c2 f0 1 g ga g v1).flatten]) (vx_runV (As := [.int 1]) (rest := []) ⟨hx, hb, hml, hown, hts⟩ (c_X9_store1 l E sa hl0 xa na ma mb ad tx ln nx c2 f0 f1 g ga gb v1 hw_43 H.size) (cwV 1 hts gL_isAhead_X9_store rfl rfl rfl (by decide +kernel) ⟨Nat.le_of_ble_eq_true rfl, Nat.le_of_ble_eq_true rfl⟩) ⟨zPE.blind, va_recv hK.1 hPc (ci := 8) (q0 := 0) rfl rfl, z_preE hK hT hZ hS (zf_free hD hS hA [0] rfl) hPc hDc⟩ rfl rfl hl.1 rfl (lv_room (Nat.le_of_ble_eq_true rfl)) dL_isAhead_186 ⟨Nat.le_of_ble_eq_true rfl, Nat.le_of_ble_eq_true rfl⟩) hP hD hS hA [0] [] rfl rfl (by decide) (by decide) (fun Ex ce q9 H locs hps hP hD hS hce hcv hcl => ?_) (fun H locs _ hP hD hS => ?_)
      · exact (absurd ph_186 hps.2)
      have hP : va_P E.1 vwCl ([(z_W E xa na ma mb ad tx ln nx c2 f0 1 g ga g v1).flatten] : List va_W).flatten H := hP
      have hD : va_D A ([(z_W E xa na ma mb ad tx ln nx c2 f0 1 g ga g v1).flatten] : List va_W).flatten := hD
      refine W.widen (k := 5) (n := 30) (by decide) (by decide) ?_
      refine W.eq (g2 := F0 Mi 189 ls [.int (m_std (g 0) - m_std (g 1))]) rfl ?_
      have hw_44 : z_wk ln nx c2 f0 1 g ga g v1 := z_wk_st1 hw_43
      refine lv_istore (lv' := [(7, .int (m_std (g 0) - m_std (g 1))), (5, .int 1), (6, .int (g 0)), (4, .int (nI i)), (2, .long (m_dg g)), (0, .ref (xa 0)), (1, .int x)]) hx hb dL_isAhead_189 hl (by decide) rfl (fun ls hl => ?_)
      refine lv_iload hx hb dL_isAhead_191 (lv_at hl 1 rfl) ?_
      refine lv_if_eq (tgt := 274) hx hb dL_isAhead_193 (by decide) (fun h9 => absurd h9 ((by decide))) (fun _ => ?_)
      refine lv_iload hx hb dL_isAhead_196 (lv_at hl 0 rfl) ?_
      refine lv_aload_n hx hb dL_isAhead_198 rfl (lv_at hl 5 rfl) ?_
      have hPc : va_P E.1 vwCl ([(z_W E xa na ma mb ad tx ln nx c2 f0 1 g ga g v1).flatten] : List va_W).flatten H := zf_sub hP [0] rfl
      refine z_rdv (va_runV (As := []) (rest := [.int (m_std (g 0) - m_std (g 1))]) ⟨hx, hb, hml, hown, hts⟩ (c_X9_altitude l E xa na ma mb ad tx ln nx c2 f0 1 g ga g v1 hw_44) (cwV 0 hts gL_isAhead_X9_altitude rfl rfl rfl (by decide +kernel) ⟨Nat.le_of_ble_eq_true rfl, Nat.le_of_ble_eq_true rfl⟩) ⟨zPr.blind, va_recv hK.1 hPc (ci := 8) (q0 := 0) rfl rfl, z_prer hK hPc⟩ rfl rfl hl.1 rfl (lv_room (Nat.le_of_ble_eq_true rfl)) dL_isAhead_199 ⟨Nat.le_of_ble_eq_true rfl, Nat.le_of_ble_eq_true rfl⟩) ?_
      refine W.eq (g2 := F0 Mi 202 ls [.int (m_std (g 0) - m_std (g 1)), .int (m_std (g 0) - m_std (g 1))]) rfl ?_
      refine lv_icmp_ne (tgt := 274) hx hb dL_isAhead_202 (by decide) (fun h9 => absurd (rfl) h9) (fun _ => ?_)
      refine lv_aload_n hx hb dL_isAhead_205 rfl (lv_at hl 5 rfl) ?_
      have hPc : va_P E.1 vwCl ([(z_W E xa na ma mb ad tx ln nx c2 f0 1 g ga g v1).flatten] : List va_W).flatten H := zf_sub hP [0] rfl
      refine z_rdv (va_runV (As := []) (rest := []) ⟨hx, hb, hml, hown, hts⟩ (c_X9_digest l E xa na ma mb ad tx ln nx c2 f0 1 g ga g v1 hw_44) (cwV 0 hts gL_isAhead_X9_digest rfl rfl rfl (by decide +kernel) ⟨Nat.le_of_ble_eq_true rfl, Nat.le_of_ble_eq_true rfl⟩) ⟨zPr.blind, va_recv hK.1 hPc (ci := 8) (q0 := 0) rfl rfl, z_prer hK hPc⟩ rfl rfl hl.1 rfl (lv_room (Nat.le_of_ble_eq_true rfl)) dL_isAhead_206 ⟨Nat.le_of_ble_eq_true rfl, Nat.le_of_ble_eq_true rfl⟩) ?_
      refine W.eq (g2 := F0 Mi 209 ls [.long (m_dg g)]) rfl ?_
      refine lv_lload_n hx hb dL_isAhead_209 rfl (lv_at hl 4 rfl) ?_
      refine W.lcmp hx hb dL_isAhead_210 ?_
      refine lv_if_ne (tgt := 274) hx hb dL_isAhead_211 (by decide) (fun h9 => absurd (z_lcs _) h9) (fun _ => ?_)
      refine lv_aload_n hx hb dL_isAhead_214 rfl (lv_at hl 5 rfl) ?_
      refine lv_bipush (v := 77) hx hb dL_isAhead_215 (by decide) ?_
      have ph_217 : 10 ≤ (77 : Int32) ∧ (77 : Int32) ≤ 500 := ⟨by decide, by decide⟩
      have hPc : va_P E.1 vwCl ([(z_W E xa na ma mb ad tx ln nx c2 f0 1 g ga g v1).flatten] : List va_W).flatten H := zf_sub hP [0] rfl
      have hDc : va_D A ([(z_W E xa na ma mb ad tx ln nx c2 f0 1 g ga g v1).flatten] : List va_W).flatten := zf_subD hD [0] (by decide) rfl
      refine z_xmut (Sc := [(z_W E xa na ma mb ad tx ln nx c2 f0 1 g ga g v1).flatten]) (Sr := []) (W1 := [(z_W E xa na ma mb ad tx ln (nI ((m_n nx + 1) % 6)) (nI (if m_n c2 < 6 then m_n c2 + 1 else 6)) f0 1 (upd g 10 (77 : Int32)) ga g (va_up v1 (m_n nx) g)).flatten]) (vx_runV (As := [.int 77]) (rest := []) ⟨hx, hb, hml, hown, hts⟩ (c_X9_setThreshold l E sa hl0 xa na ma mb ad tx ln nx c2 f0 1 g ga g v1 hw_44 77 H.size) (cwV 1 hts gL_isAhead_X9_setThreshold rfl rfl rfl (by decide +kernel) ⟨Nat.le_of_ble_eq_true rfl, Nat.le_of_ble_eq_true rfl⟩) ⟨zPE.blind, va_recv hK.1 hPc (ci := 8) (q0 := 0) rfl rfl, z_preE hK hT hZ hS (zf_free hD hS hA [0] rfl) hPc hDc⟩ rfl rfl hl.1 rfl (lv_room (Nat.le_of_ble_eq_true rfl)) dL_isAhead_217 ⟨Nat.le_of_ble_eq_true rfl, Nat.le_of_ble_eq_true rfl⟩) hP hD hS hA [0] [] rfl rfl (by decide) (by decide) (fun Ex ce q9 H locs hps hP hD hS hce hcv hcl => ?_) (fun H locs _ hP hD hS => ?_)
      · exact (absurd ph_217 hps.2)
      have hP : va_P E.1 vwCl ([(z_W E xa na ma mb ad tx ln (nI ((m_n nx + 1) % 6)) (nI (if m_n c2 < 6 then m_n c2 + 1 else 6)) f0 1 (upd g 10 (77 : Int32)) ga g (va_up v1 (m_n nx) g)).flatten] : List va_W).flatten H := hP
      have hD : va_D A ([(z_W E xa na ma mb ad tx ln (nI ((m_n nx + 1) % 6)) (nI (if m_n c2 < 6 then m_n c2 + 1 else 6)) f0 1 (upd g 10 (77 : Int32)) ga g (va_up v1 (m_n nx) g)).flatten] : List va_W).flatten := hD
      refine W.widen (k := 6) (n := 36) (by decide) (by decide) ?_
      refine W.eq (g2 := F0 Mi 220 ls [.int (g 10)]) rfl ?_
      have hw_45 : z_wk ln (nI ((m_n nx + 1) % 6)) (nI (if m_n c2 < 6 then m_n c2 + 1 else 6)) f0 1 (upd g 10 (77 : Int32)) ga g (va_up v1 (m_n nx) g) := z_wk_save hw_44 (show z_ok (upd g 10 (77 : Int32)) from z_ok_thr hw.1)
      obtain ⟨n5, e_n5⟩ : ∃ z, z = (nI ((m_n nx + 1) % 6)) := ⟨_, rfl⟩
      obtain ⟨c5, e_c5⟩ : ∃ z, z = (nI (if m_n c2 < 6 then m_n c2 + 1 else 6)) := ⟨_, rfl⟩
      obtain ⟨v5, e_v5⟩ : ∃ z, z = (va_up v1 (m_n nx) g) := ⟨_, rfl⟩
      have hP : va_P E.1 vwCl ([(z_W E xa na ma mb ad tx ln n5 c5 f0 1 (upd g 10 (77 : Int32)) ga g v5).flatten] : List va_W).flatten H := by rw [e_n5, e_c5, e_v5]; exact hP
      have hD : va_D A ([(z_W E xa na ma mb ad tx ln n5 c5 f0 1 (upd g 10 (77 : Int32)) ga g v5).flatten] : List va_W).flatten := by rw [e_n5, e_c5, e_v5]; exact hD
      have hw_46 : z_wk ln n5 c5 f0 1 (upd g 10 (77 : Int32)) ga g v5 := by rw [e_n5, e_c5, e_v5]; exact hw_45
      refine lv_bipush (v := 10) hx hb dL_isAhead_220 (by decide) ?_
      refine lv_icmp_lt (tgt := 274) hx hb dL_isAhead_222 (by decide) (fun h9 => absurd h9 (h_10 hg)) (fun _ => ?_)
      refine lv_aload_n hx hb dL_isAhead_225 rfl (lv_at hl 5 rfl) ?_
      refine lv_iconst (v := 3) hx hb dL_isAhead_226 (by decide) ?_
      refine lv_iload hx hb dL_isAhead_227 (lv_at hl 2 rfl) ?_
      refine lv_bipush (v := 60) hx hb dL_isAhead_229 (by decide) ?_
      refine lv_iadd hx hb dL_isAhead_231 ?_
      refine lv_sipush (v := 5000) hx hb dL_isAhead_232 (by decide) ?_
      refine lv_sipush (v := 11000) hx hb dL_isAhead_235 (by decide) ?_
      refine z_rdv (va_runS (As := [.int ((g 0) + 60), .int 5000, .int 11000]) (rest := [.int 3, .ref (xa 0)]) ⟨hx, hb, hml, hown, hts⟩ (c_L_within l E ((g 0) + 60) 5000 11000) (va_cwS 3 hts gL_isAhead_L_within rfl rfl rfl (by decide +kernel) ⟨Nat.le_of_ble_eq_true rfl, Nat.le_of_ble_eq_true rfl⟩) ⟨zPr.blind, z_prer hK zP_nil⟩ rfl rfl hl.1 rfl (lv_room (Nat.le_of_ble_eq_true rfl)) dL_isAhead_238 ⟨Nat.le_of_ble_eq_true rfl, Nat.le_of_ble_eq_true rfl⟩) ?_
      refine W.eq (g2 := F0 Mi 241 ls [.int (a_wi ((g 0) + 60) 5000 11000), .int 3, .ref (xa 0)]) rfl ?_
      have ph_241 : (1 ≤ (3 : Int32) ∧ (3 : Int32) ≤ 120) ∧ (5000 ≤ (a_wi ((g 0) + 60) 5000 11000) ∧ (a_wi ((g 0) + 60) 5000 11000) ≤ 11000) := ⟨⟨by decide, by decide⟩, a_wi_r (by decide)⟩
      have hPc : va_P E.1 vwCl ([(z_W E xa na ma mb ad tx ln n5 c5 f0 1 (upd g 10 (77 : Int32)) ga g v5).flatten] : List va_W).flatten H := zf_sub hP [0] rfl
      have hDc : va_D A ([(z_W E xa na ma mb ad tx ln n5 c5 f0 1 (upd g 10 (77 : Int32)) ga g v5).flatten] : List va_W).flatten := zf_subD hD [0] (by decide) rfl
      refine z_xmut (Sc := [(z_W E xa na ma mb ad tx ln n5 c5 f0 1 (upd g 10 (77 : Int32)) ga g v5).flatten]) (Sr := []) (W1 := [(z_W E xa na ma mb ad tx ln (nI ((m_n n5 + 1) % 6)) (nI (if m_n c5 < 6 then m_n c5 + 1 else 6)) f0 1 (m_tripC (upd g 10 (77 : Int32)) (3 : Int32) (a_wi ((g 0) + 60) 5000 11000) (m_n (3 : Int32))) ga g (va_up v5 (m_n n5) (upd g 10 (77 : Int32)))).flatten]) (vx_runV (As := [.int 3, .int (a_wi ((g 0) + 60) 5000 11000)]) (rest := []) ⟨hx, hb, hml, hown, hts⟩ (c_X9_travel l E sa hl0 xa na ma mb ad tx ln n5 c5 f0 1 (upd g 10 (77 : Int32)) ga g v5 hw_46 3 (a_wi ((g 0) + 60) 5000 11000) H.size) (cwV 2 hts gL_isAhead_X9_travel rfl rfl rfl (by decide +kernel) ⟨Nat.le_of_ble_eq_true rfl, Nat.le_of_ble_eq_true rfl⟩) ⟨zPE.blind, va_recv hK.1 hPc (ci := 8) (q0 := 0) rfl rfl, z_preE hK hT hZ hS (zf_free hD hS hA [0] rfl) hPc hDc⟩ rfl rfl hl.1 rfl (lv_room (Nat.le_of_ble_eq_true rfl)) dL_isAhead_241 ⟨Nat.le_of_ble_eq_true rfl, Nat.le_of_ble_eq_true rfl⟩) hP hD hS hA [0] [] rfl rfl (by decide) (by decide) (fun Ex ce q9 H locs hps hP hD hS hce hcv hcl => ?_) (fun H locs _ hP hD hS => ?_)
      · exact (absurd ph_241 hps.2)
      have hP : va_P E.1 vwCl ([(z_W E xa na ma mb ad tx ln (nI ((m_n n5 + 1) % 6)) (nI (if m_n c5 < 6 then m_n c5 + 1 else 6)) f0 1 (m_tripC (upd g 10 (77 : Int32)) (3 : Int32) (a_wi ((g 0) + 60) 5000 11000) (m_n (3 : Int32))) ga g (va_up v5 (m_n n5) (upd g 10 (77 : Int32)))).flatten] : List va_W).flatten H := hP
      have hD : va_D A ([(z_W E xa na ma mb ad tx ln (nI ((m_n n5 + 1) % 6)) (nI (if m_n c5 < 6 then m_n c5 + 1 else 6)) f0 1 (m_tripC (upd g 10 (77 : Int32)) (3 : Int32) (a_wi ((g 0) + 60) 5000 11000) (m_n (3 : Int32))) ga g (va_up v5 (m_n n5) (upd g 10 (77 : Int32)))).flatten] : List va_W).flatten := hD
      refine W.widen (k := 8) (n := 48) (by decide) (by decide) ?_
      refine W.eq (g2 := F0 Mi 244 ls [.int (m_std ((m_tripC (upd g 10 (77 : Int32)) (3 : Int32) (a_wi ((g 0) + 60) 5000 11000) (m_n (3 : Int32))) 0) - m_std ((m_tripC (upd g 10 (77 : Int32)) (3 : Int32) (a_wi ((g 0) + 60) 5000 11000) (m_n (3 : Int32))) 1))]) rfl ?_
      have hw_47 : z_wk ln (nI ((m_n n5 + 1) % 6)) (nI (if m_n c5 < 6 then m_n c5 + 1 else 6)) f0 1 (m_tripC (upd g 10 (77 : Int32)) (3 : Int32) (a_wi ((g 0) + 60) 5000 11000) (m_n (3 : Int32))) ga g (va_up v5 (m_n n5) (upd g 10 (77 : Int32))) := z_wk_save hw_46 (show z_ok (m_tripC (upd g 10 (77 : Int32)) (3 : Int32) (a_wi ((g 0) + 60) 5000 11000) (m_n (3 : Int32))) from z_ok_trip (z_ok_thr hw.1) _)
      obtain ⟨n6, e_n6⟩ : ∃ z, z = (nI ((m_n n5 + 1) % 6)) := ⟨_, rfl⟩
      obtain ⟨c6, e_c6⟩ : ∃ z, z = (nI (if m_n c5 < 6 then m_n c5 + 1 else 6)) := ⟨_, rfl⟩
      obtain ⟨v6, e_v6⟩ : ∃ z, z = (va_up v5 (m_n n5) (upd g 10 (77 : Int32))) := ⟨_, rfl⟩
      have hP : va_P E.1 vwCl ([(z_W E xa na ma mb ad tx ln n6 c6 f0 1 (m_tripC (upd g 10 (77 : Int32)) (3 : Int32) (a_wi ((g 0) + 60) 5000 11000) (m_n (3 : Int32))) ga g v6).flatten] : List va_W).flatten H := by rw [e_n6, e_c6, e_v6]; exact hP
      have hD : va_D A ([(z_W E xa na ma mb ad tx ln n6 c6 f0 1 (m_tripC (upd g 10 (77 : Int32)) (3 : Int32) (a_wi ((g 0) + 60) 5000 11000) (m_n (3 : Int32))) ga g v6).flatten] : List va_W).flatten := by rw [e_n6, e_c6, e_v6]; exact hD
      have hw_48 : z_wk ln n6 c6 f0 1 (m_tripC (upd g 10 (77 : Int32)) (3 : Int32) (a_wi ((g 0) + 60) 5000 11000) (m_n (3 : Int32))) ga g v6 := by rw [e_n6, e_c6, e_v6]; exact hw_47
      refine lv_aload_n hx hb dL_isAhead_244 rfl (lv_at hl 5 rfl) ?_
      have hPc : va_P E.1 vwCl ([(z_W E xa na ma mb ad tx ln n6 c6 f0 1 (m_tripC (upd g 10 (77 : Int32)) (3 : Int32) (a_wi ((g 0) + 60) 5000 11000) (m_n (3 : Int32))) ga g v6).flatten] : List va_W).flatten H := zf_sub hP [0] rfl
      refine z_rdv (va_runV (As := []) (rest := [.int (m_std ((m_tripC (upd g 10 (77 : Int32)) (3 : Int32) (a_wi ((g 0) + 60) 5000 11000) (m_n (3 : Int32))) 0) - m_std ((m_tripC (upd g 10 (77 : Int32)) (3 : Int32) (a_wi ((g 0) + 60) 5000 11000) (m_n (3 : Int32))) 1))]) ⟨hx, hb, hml, hown, hts⟩ (c_X9_altitude l E xa na ma mb ad tx ln n6 c6 f0 1 (m_tripC (upd g 10 (77 : Int32)) (3 : Int32) (a_wi ((g 0) + 60) 5000 11000) (m_n (3 : Int32))) ga g v6 hw_48) (cwV 0 hts gL_isAhead_X9_altitude rfl rfl rfl (by decide +kernel) ⟨Nat.le_of_ble_eq_true rfl, Nat.le_of_ble_eq_true rfl⟩) ⟨zPr.blind, va_recv hK.1 hPc (ci := 8) (q0 := 0) rfl rfl, z_prer hK hPc⟩ rfl rfl hl.1 rfl (lv_room (Nat.le_of_ble_eq_true rfl)) dL_isAhead_245 ⟨Nat.le_of_ble_eq_true rfl, Nat.le_of_ble_eq_true rfl⟩) ?_
      refine W.eq (g2 := F0 Mi 248 ls [.int (m_std ((m_tripC (upd g 10 (77 : Int32)) (3 : Int32) (a_wi ((g 0) + 60) 5000 11000) (m_n (3 : Int32))) 0) - m_std ((m_tripC (upd g 10 (77 : Int32)) (3 : Int32) (a_wi ((g 0) + 60) 5000 11000) (m_n (3 : Int32))) 1)), .int (m_std ((m_tripC (upd g 10 (77 : Int32)) (3 : Int32) (a_wi ((g 0) + 60) 5000 11000) (m_n (3 : Int32))) 0) - m_std ((m_tripC (upd g 10 (77 : Int32)) (3 : Int32) (a_wi ((g 0) + 60) 5000 11000) (m_n (3 : Int32))) 1))]) rfl ?_
      refine lv_icmp_ne (tgt := 274) hx hb dL_isAhead_248 (by decide) (fun h9 => absurd (rfl) h9) (fun _ => ?_)
      refine lv_aload_n hx hb dL_isAhead_251 rfl (lv_at hl 5 rfl) ?_
      refine lv_iconst (v := 1) hx hb dL_isAhead_252 (by decide) ?_
      have ph_253 : ((0 : Int32) ≤ 1 ∧ (1 : Int32) ≤ 1) ∧ ¬ (1 : Int32) = 0 := ⟨⟨by decide, by decide⟩, by decide⟩
      have hPc : va_P E.1 vwCl ([(z_W E xa na ma mb ad tx ln n6 c6 f0 1 (m_tripC (upd g 10 (77 : Int32)) (3 : Int32) (a_wi ((g 0) + 60) 5000 11000) (m_n (3 : Int32))) ga g v6).flatten] : List va_W).flatten H := zf_sub hP [0] rfl
      have hDc : va_D A ([(z_W E xa na ma mb ad tx ln n6 c6 f0 1 (m_tripC (upd g 10 (77 : Int32)) (3 : Int32) (a_wi ((g 0) + 60) 5000 11000) (m_n (3 : Int32))) ga g v6).flatten] : List va_W).flatten := zf_subD hD [0] (by decide) rfl
      refine z_xmut (Sc := [(z_W E xa na ma mb ad tx ln n6 c6 f0 1 (m_tripC (upd g 10 (77 : Int32)) (3 : Int32) (a_wi ((g 0) + 60) 5000 11000) (m_n (3 : Int32))) ga g v6).flatten]) (Sr := []) (W1 := [(z_W E xa na ma mb ad tx ln (nI ((m_n n6 + 1) % 6)) (nI (if m_n c6 < 6 then m_n c6 + 1 else 6)) f0 1 g ga g (va_up v6 (m_n n6) (m_tripC (upd g 10 (77 : Int32)) (3 : Int32) (a_wi ((g 0) + 60) 5000 11000) (m_n (3 : Int32))))).flatten]) (vx_runV (As := [.int 1]) (rest := []) ⟨hx, hb, hml, hown, hts⟩ (c_X9_recall1 l E sa hl0 xa na ma mb ad tx ln n6 c6 f0 1 (m_tripC (upd g 10 (77 : Int32)) (3 : Int32) (a_wi ((g 0) + 60) 5000 11000) (m_n (3 : Int32))) ga g v6 hw_48 H.size) (cwV 1 hts gL_isAhead_X9_recall rfl rfl rfl (by decide +kernel) ⟨Nat.le_of_ble_eq_true rfl, Nat.le_of_ble_eq_true rfl⟩) ⟨zPE.blind, va_recv hK.1 hPc (ci := 8) (q0 := 0) rfl rfl, z_preE hK hT hZ hS (zf_free hD hS hA [0] rfl) hPc hDc⟩ rfl rfl hl.1 rfl (lv_room (Nat.le_of_ble_eq_true rfl)) dL_isAhead_253 ⟨Nat.le_of_ble_eq_true rfl, Nat.le_of_ble_eq_true rfl⟩) hP hD hS hA [0] [] rfl rfl (by decide) (by decide) (fun Ex ce q9 H locs hps hP hD hS hce hcv hcl => ?_) (fun H locs _ hP hD hS => ?_)
      · exact (hps.elim (fun z => absurd ph_253.1 z.2) (fun z => absurd z.2.2 ph_253.2))
      have hP : va_P E.1 vwCl ([(z_W E xa na ma mb ad tx ln (nI ((m_n n6 + 1) % 6)) (nI (if m_n c6 < 6 then m_n c6 + 1 else 6)) f0 1 g ga g (va_up v6 (m_n n6) (m_tripC (upd g 10 (77 : Int32)) (3 : Int32) (a_wi ((g 0) + 60) 5000 11000) (m_n (3 : Int32))))).flatten] : List va_W).flatten H := hP
      have hD : va_D A ([(z_W E xa na ma mb ad tx ln (nI ((m_n n6 + 1) % 6)) (nI (if m_n c6 < 6 then m_n c6 + 1 else 6)) f0 1 g ga g (va_up v6 (m_n n6) (m_tripC (upd g 10 (77 : Int32)) (3 : Int32) (a_wi ((g 0) + 60) 5000 11000) (m_n (3 : Int32))))).flatten] : List va_W).flatten := hD
      refine W.widen (k := 10) (n := 60) (by decide) (by decide) ?_
      refine W.eq (g2 := F0 Mi 256 ls [.int (m_std (g 0) - m_std (g 1))]) rfl ?_
      have hw_49 : z_wk ln (nI ((m_n n6 + 1) % 6)) (nI (if m_n c6 < 6 then m_n c6 + 1 else 6)) f0 1 g ga g (va_up v6 (m_n n6) (m_tripC (upd g 10 (77 : Int32)) (3 : Int32) (a_wi ((g 0) + 60) 5000 11000) (m_n (3 : Int32)))) := z_wk_save hw_48 (show z_ok g from hw.1)
      obtain ⟨n7, e_n7⟩ : ∃ z, z = (nI ((m_n n6 + 1) % 6)) := ⟨_, rfl⟩
      obtain ⟨c7, e_c7⟩ : ∃ z, z = (nI (if m_n c6 < 6 then m_n c6 + 1 else 6)) := ⟨_, rfl⟩
      obtain ⟨v7, e_v7⟩ : ∃ z, z = (va_up v6 (m_n n6) (m_tripC (upd g 10 (77 : Int32)) (3 : Int32) (a_wi ((g 0) + 60) 5000 11000) (m_n (3 : Int32)))) := ⟨_, rfl⟩
      have hP : va_P E.1 vwCl ([(z_W E xa na ma mb ad tx ln n7 c7 f0 1 g ga g v7).flatten] : List va_W).flatten H := by rw [e_n7, e_c7, e_v7]; exact hP
      have hD : va_D A ([(z_W E xa na ma mb ad tx ln n7 c7 f0 1 g ga g v7).flatten] : List va_W).flatten := by rw [e_n7, e_c7, e_v7]; exact hD
      have hw_50 : z_wk ln n7 c7 f0 1 g ga g v7 := by rw [e_n7, e_c7, e_v7]; exact hw_49
      refine lv_iload hx hb dL_isAhead_256 (lv_at hl 0 rfl) ?_
      refine lv_icmp_ne (tgt := 274) hx hb dL_isAhead_258 (by decide) (fun h9 => absurd (rfl) h9) (fun _ => ?_)
      refine lv_aload_n hx hb dL_isAhead_261 rfl (lv_at hl 5 rfl) ?_
      have hPc : va_P E.1 vwCl ([(z_W E xa na ma mb ad tx ln n7 c7 f0 1 g ga g v7).flatten] : List va_W).flatten H := zf_sub hP [0] rfl
      refine z_rdv (va_runV (As := []) (rest := []) ⟨hx, hb, hml, hown, hts⟩ (c_X9_digest l E xa na ma mb ad tx ln n7 c7 f0 1 g ga g v7 hw_50) (cwV 0 hts gL_isAhead_X9_digest rfl rfl rfl (by decide +kernel) ⟨Nat.le_of_ble_eq_true rfl, Nat.le_of_ble_eq_true rfl⟩) ⟨zPr.blind, va_recv hK.1 hPc (ci := 8) (q0 := 0) rfl rfl, z_prer hK hPc⟩ rfl rfl hl.1 rfl (lv_room (Nat.le_of_ble_eq_true rfl)) dL_isAhead_262 ⟨Nat.le_of_ble_eq_true rfl, Nat.le_of_ble_eq_true rfl⟩) ?_
      refine W.eq (g2 := F0 Mi 265 ls [.long (m_dg g)]) rfl ?_
      refine lv_lload_n hx hb dL_isAhead_265 rfl (lv_at hl 4 rfl) ?_
      refine W.lcmp hx hb dL_isAhead_266 ?_
      refine lv_if_ne (tgt := 274) hx hb dL_isAhead_267 (by decide) (fun h9 => absurd (z_lcs _) h9) (fun _ => ?_)
      refine lv_iconst (v := 1) hx hb dL_isAhead_270 (by decide) ?_
      refine lv_goto (tgt := 275) hx hb dL_isAhead_271 (by decide) ?_
      refine lv_istore (lv' := [(5, .int 1), (7, .int (m_std (g 0) - m_std (g 1))), (6, .int (g 0)), (4, .int (nI i)), (2, .long (m_dg g)), (0, .ref (xa 0)), (1, .int x)]) hx hb dL_isAhead_275 hl (by decide) rfl (fun ls hl => ?_)
      refine lv_iload hx hb dL_isAhead_277 (lv_at hl 0 rfl) ?_
      refine lv_if_eq (tgt := 316) hx hb dL_isAhead_279 (by decide) (fun h9 => absurd h9 ((by decide))) (fun _ => ?_)
      refine lv_aload_n hx hb dL_isAhead_282 rfl (lv_at hl 5 rfl) ?_
      have L5 := r_lo1 (r_lo0 hw_43.2.2.1) (by decide) e_c5
      have L6 := r_lo1 L5 (by decide) e_c6
      have L7 := r_lo1 L6 (by decide) e_c7
      have ph_283 : ¬ c7 = 0 := r_ne L7
      have hPc : va_P E.1 vwCl ([(z_W E xa na ma mb ad tx ln n7 c7 f0 1 g ga g v7).flatten] : List va_W).flatten H := zf_sub hP [0] rfl
      have hDc : va_D A ([(z_W E xa na ma mb ad tx ln n7 c7 f0 1 g ga g v7).flatten] : List va_W).flatten := zf_subD hD [0] (by decide) rfl
      refine z_xmut (Sc := [(z_W E xa na ma mb ad tx ln n7 c7 f0 1 g ga g v7).flatten]) (Sr := []) (W1 := [(z_W E xa na ma mb ad tx ln n6 (nI (m_n c7 - 1)) f0 1 (m_tripC (upd g 10 (77 : Int32)) (3 : Int32) (a_wi ((g 0) + 60) 5000 11000) (m_n (3 : Int32))) ga g v7).flatten]) (vx_runV (As := []) (rest := []) ⟨hx, hb, hml, hown, hts⟩ (c_X9_undoG l E sa hl0 xa na ma mb ad tx ln n7 c7 f0 1 g ga g v7 hw_50 (r_e1 hw_48.2.1 e_n7) (r_e2 hw_48.2.1 e_n7 e_v7) H.size) (cwV 0 hts gL_isAhead_X9_undo rfl rfl rfl (by decide +kernel) ⟨Nat.le_of_ble_eq_true rfl, Nat.le_of_ble_eq_true rfl⟩) ⟨zPE.blind, va_recv hK.1 hPc (ci := 8) (q0 := 0) rfl rfl, z_preE hK hT hZ hS (zf_free hD hS hA [0] rfl) hPc hDc⟩ rfl rfl hl.1 rfl (lv_room (Nat.le_of_ble_eq_true rfl)) dL_isAhead_283 ⟨Nat.le_of_ble_eq_true rfl, Nat.le_of_ble_eq_true rfl⟩) hP hD hS hA [0] [] rfl rfl (by decide) (by decide) (fun Ex ce q9 H locs hps hP hD hS hce hcv hcl => ?_) (fun H locs _ hP hD hS => ?_)
      · exact (absurd hps.2 ph_283)
      have hP : va_P E.1 vwCl ([(z_W E xa na ma mb ad tx ln n6 (nI (m_n c7 - 1)) f0 1 (m_tripC (upd g 10 (77 : Int32)) (3 : Int32) (a_wi ((g 0) + 60) 5000 11000) (m_n (3 : Int32))) ga g v7).flatten] : List va_W).flatten H := hP
      have hD : va_D A ([(z_W E xa na ma mb ad tx ln n6 (nI (m_n c7 - 1)) f0 1 (m_tripC (upd g 10 (77 : Int32)) (3 : Int32) (a_wi ((g 0) + 60) 5000 11000) (m_n (3 : Int32))) ga g v7).flatten] : List va_W).flatten := hD
      refine W.widen (k := 11) (n := 66) (by decide) (by decide) ?_
      refine W.eq (g2 := F0 Mi 286 ls [.int (nI (m_n c7 - 1))]) rfl ?_
      have hw_51 : z_wk ln n6 (nI (m_n c7 - 1)) f0 1 (m_tripC (upd g 10 (77 : Int32)) (3 : Int32) (a_wi ((g 0) + 60) 5000 11000) (m_n (3 : Int32))) ga g v7 := r_wku hw_50 (r_e1 hw_48.2.1 e_n7) (r_e2 hw_48.2.1 e_n7 e_v7) rfl (z_ok_trip (z_ok_thr hw.1) _)
      obtain ⟨c8, e_c8⟩ : ∃ z, z = (nI (m_n c7 - 1)) := ⟨_, rfl⟩
      have hP : va_P E.1 vwCl ([(z_W E xa na ma mb ad tx ln n6 c8 f0 1 (m_tripC (upd g 10 (77 : Int32)) (3 : Int32) (a_wi ((g 0) + 60) 5000 11000) (m_n (3 : Int32))) ga g v7).flatten] : List va_W).flatten H := by rw [e_c8]; exact hP
      have hD : va_D A ([(z_W E xa na ma mb ad tx ln n6 c8 f0 1 (m_tripC (upd g 10 (77 : Int32)) (3 : Int32) (a_wi ((g 0) + 60) 5000 11000) (m_n (3 : Int32))) ga g v7).flatten] : List va_W).flatten := by rw [e_c8]; exact hD
      have hw_52 : z_wk ln n6 c8 f0 1 (m_tripC (upd g 10 (77 : Int32)) (3 : Int32) (a_wi ((g 0) + 60) 5000 11000) (m_n (3 : Int32))) ga g v7 := by rw [e_c8]; exact hw_51
      refine lv_if_lt (tgt := 316) hx hb dL_isAhead_286 (by decide) (fun h9 => absurd h9 (r_nn c7)) (fun _ => ?_)
      refine lv_aload_n hx hb dL_isAhead_289 rfl (lv_at hl 5 rfl) ?_
      have L8 := r_lo2 L7 e_c8
      have eu2 : v7 ((m_n n6 + 5) % 6) = (upd g 10 (77 : Int32)) := by rw [r_u1 hw_46.2.1 e_n6, e_v7, r_vn _ _ (r_ne1 hw_46.2.1 e_n6), e_v6, r_vs]
      have ph_290 : ¬ c8 = 0 := r_ne L8
      have hPc : va_P E.1 vwCl ([(z_W E xa na ma mb ad tx ln n6 c8 f0 1 (m_tripC (upd g 10 (77 : Int32)) (3 : Int32) (a_wi ((g 0) + 60) 5000 11000) (m_n (3 : Int32))) ga g v7).flatten] : List va_W).flatten H := zf_sub hP [0] rfl
      have hDc : va_D A ([(z_W E xa na ma mb ad tx ln n6 c8 f0 1 (m_tripC (upd g 10 (77 : Int32)) (3 : Int32) (a_wi ((g 0) + 60) 5000 11000) (m_n (3 : Int32))) ga g v7).flatten] : List va_W).flatten := zf_subD hD [0] (by decide) rfl
      refine z_xmut (Sc := [(z_W E xa na ma mb ad tx ln n6 c8 f0 1 (m_tripC (upd g 10 (77 : Int32)) (3 : Int32) (a_wi ((g 0) + 60) 5000 11000) (m_n (3 : Int32))) ga g v7).flatten]) (Sr := []) (W1 := [(z_W E xa na ma mb ad tx ln n5 (nI (m_n c8 - 1)) f0 1 (upd g 10 (77 : Int32)) ga g v7).flatten]) (vx_runV (As := []) (rest := []) ⟨hx, hb, hml, hown, hts⟩ (c_X9_undoG l E sa hl0 xa na ma mb ad tx ln n6 c8 f0 1 (m_tripC (upd g 10 (77 : Int32)) (3 : Int32) (a_wi ((g 0) + 60) 5000 11000) (m_n (3 : Int32))) ga g v7 hw_52 (r_e1 hw_46.2.1 e_n6) eu2 H.size) (cwV 0 hts gL_isAhead_X9_undo rfl rfl rfl (by decide +kernel) ⟨Nat.le_of_ble_eq_true rfl, Nat.le_of_ble_eq_true rfl⟩) ⟨zPE.blind, va_recv hK.1 hPc (ci := 8) (q0 := 0) rfl rfl, z_preE hK hT hZ hS (zf_free hD hS hA [0] rfl) hPc hDc⟩ rfl rfl hl.1 rfl (lv_room (Nat.le_of_ble_eq_true rfl)) dL_isAhead_290 ⟨Nat.le_of_ble_eq_true rfl, Nat.le_of_ble_eq_true rfl⟩) hP hD hS hA [0] [] rfl rfl (by decide) (by decide) (fun Ex ce q9 H locs hps hP hD hS hce hcv hcl => ?_) (fun H locs _ hP hD hS => ?_)
      · exact (absurd hps.2 ph_290)
      have hP : va_P E.1 vwCl ([(z_W E xa na ma mb ad tx ln n5 (nI (m_n c8 - 1)) f0 1 (upd g 10 (77 : Int32)) ga g v7).flatten] : List va_W).flatten H := hP
      have hD : va_D A ([(z_W E xa na ma mb ad tx ln n5 (nI (m_n c8 - 1)) f0 1 (upd g 10 (77 : Int32)) ga g v7).flatten] : List va_W).flatten := hD
      refine W.widen (k := 12) (n := 72) (by decide) (by decide) ?_
      refine W.eq (g2 := F0 Mi 293 ls [.int (nI (m_n c8 - 1))]) rfl ?_
      have hw_53 : z_wk ln n5 (nI (m_n c8 - 1)) f0 1 (upd g 10 (77 : Int32)) ga g v7 := r_wku hw_52 (r_e1 hw_46.2.1 e_n6) eu2 rfl (z_ok_thr hw.1)
      obtain ⟨c9, e_c9⟩ : ∃ z, z = (nI (m_n c8 - 1)) := ⟨_, rfl⟩
      have hP : va_P E.1 vwCl ([(z_W E xa na ma mb ad tx ln n5 c9 f0 1 (upd g 10 (77 : Int32)) ga g v7).flatten] : List va_W).flatten H := by rw [e_c9]; exact hP
      have hD : va_D A ([(z_W E xa na ma mb ad tx ln n5 c9 f0 1 (upd g 10 (77 : Int32)) ga g v7).flatten] : List va_W).flatten := by rw [e_c9]; exact hD
      have hw_54 : z_wk ln n5 c9 f0 1 (upd g 10 (77 : Int32)) ga g v7 := by rw [e_c9]; exact hw_53
      refine lv_if_lt (tgt := 316) hx hb dL_isAhead_293 (by decide) (fun h9 => absurd h9 (r_nn c8)) (fun _ => ?_)
      refine lv_aload_n hx hb dL_isAhead_296 rfl (lv_at hl 5 rfl) ?_
      have L9 := r_lo2 L8 e_c9
      have eu3 : v7 ((m_n n5 + 5) % 6) = g := by rw [r_u1 hw.2.1 e_n5, e_v7, r_vn _ _ (r_ne2 hw.2.1 e_n5 e_n6), e_v6, r_vn _ _ (r_ne1 hw.2.1 e_n5), e_v5, r_vs]
      have ph_297 : ¬ c9 = 0 := r_ne L9
      have hPc : va_P E.1 vwCl ([(z_W E xa na ma mb ad tx ln n5 c9 f0 1 (upd g 10 (77 : Int32)) ga g v7).flatten] : List va_W).flatten H := zf_sub hP [0] rfl
      have hDc : va_D A ([(z_W E xa na ma mb ad tx ln n5 c9 f0 1 (upd g 10 (77 : Int32)) ga g v7).flatten] : List va_W).flatten := zf_subD hD [0] (by decide) rfl
      refine z_xmut (Sc := [(z_W E xa na ma mb ad tx ln n5 c9 f0 1 (upd g 10 (77 : Int32)) ga g v7).flatten]) (Sr := []) (W1 := [(z_W E xa na ma mb ad tx ln nx (nI (m_n c9 - 1)) f0 1 g ga g v7).flatten]) (vx_runV (As := []) (rest := []) ⟨hx, hb, hml, hown, hts⟩ (c_X9_undoG l E sa hl0 xa na ma mb ad tx ln n5 c9 f0 1 (upd g 10 (77 : Int32)) ga g v7 hw_54 (r_e1 hw.2.1 e_n5) eu3 H.size) (cwV 0 hts gL_isAhead_X9_undo rfl rfl rfl (by decide +kernel) ⟨Nat.le_of_ble_eq_true rfl, Nat.le_of_ble_eq_true rfl⟩) ⟨zPE.blind, va_recv hK.1 hPc (ci := 8) (q0 := 0) rfl rfl, z_preE hK hT hZ hS (zf_free hD hS hA [0] rfl) hPc hDc⟩ rfl rfl hl.1 rfl (lv_room (Nat.le_of_ble_eq_true rfl)) dL_isAhead_297 ⟨Nat.le_of_ble_eq_true rfl, Nat.le_of_ble_eq_true rfl⟩) hP hD hS hA [0] [] rfl rfl (by decide) (by decide) (fun Ex ce q9 H locs hps hP hD hS hce hcv hcl => ?_) (fun H locs _ hP hD hS => ?_)
      · exact (absurd hps.2 ph_297)
      have hP : va_P E.1 vwCl ([(z_W E xa na ma mb ad tx ln nx (nI (m_n c9 - 1)) f0 1 g ga g v7).flatten] : List va_W).flatten H := hP
      have hD : va_D A ([(z_W E xa na ma mb ad tx ln nx (nI (m_n c9 - 1)) f0 1 g ga g v7).flatten] : List va_W).flatten := hD
      refine W.widen (k := 13) (n := 78) (by decide) (by decide) ?_
      refine W.eq (g2 := F0 Mi 300 ls [.int (nI (m_n c9 - 1))]) rfl ?_
      have hw_55 : z_wk ln nx (nI (m_n c9 - 1)) f0 1 g ga g v7 := r_wku hw_54 (r_e1 hw.2.1 e_n5) eu3 rfl hw.1
      obtain ⟨c10, e_c10⟩ : ∃ z, z = (nI (m_n c9 - 1)) := ⟨_, rfl⟩
      have hP : va_P E.1 vwCl ([(z_W E xa na ma mb ad tx ln nx c10 f0 1 g ga g v7).flatten] : List va_W).flatten H := by rw [e_c10]; exact hP
      have hD : va_D A ([(z_W E xa na ma mb ad tx ln nx c10 f0 1 g ga g v7).flatten] : List va_W).flatten := by rw [e_c10]; exact hD
      have hw_56 : z_wk ln nx c10 f0 1 g ga g v7 := by rw [e_c10]; exact hw_55
      refine lv_if_lt (tgt := 316) hx hb dL_isAhead_300 (by decide) (fun h9 => absurd h9 (r_nn c9)) (fun _ => ?_)
      refine lv_aload_n hx hb dL_isAhead_303 rfl (lv_at hl 5 rfl) ?_
      have hPc : va_P E.1 vwCl ([(z_W E xa na ma mb ad tx ln nx c10 f0 1 g ga g v7).flatten] : List va_W).flatten H := zf_sub hP [0] rfl
      refine z_rdv (va_runV (As := []) (rest := []) ⟨hx, hb, hml, hown, hts⟩ (c_X9_digest l E xa na ma mb ad tx ln nx c10 f0 1 g ga g v7 hw_56) (cwV 0 hts gL_isAhead_X9_digest rfl rfl rfl (by decide +kernel) ⟨Nat.le_of_ble_eq_true rfl, Nat.le_of_ble_eq_true rfl⟩) ⟨zPr.blind, va_recv hK.1 hPc (ci := 8) (q0 := 0) rfl rfl, z_prer hK hPc⟩ rfl rfl hl.1 rfl (lv_room (Nat.le_of_ble_eq_true rfl)) dL_isAhead_304 ⟨Nat.le_of_ble_eq_true rfl, Nat.le_of_ble_eq_true rfl⟩) ?_
      refine W.eq (g2 := F0 Mi 307 ls [.long (m_dg g)]) rfl ?_
      refine lv_lload_n hx hb dL_isAhead_307 rfl (lv_at hl 4 rfl) ?_
      refine W.lcmp hx hb dL_isAhead_308 ?_
      refine lv_if_ne (tgt := 316) hx hb dL_isAhead_309 (by decide) (fun h9 => absurd (z_lcs _) h9) (fun _ => ?_)
      refine lv_iconst (v := 1) hx hb dL_isAhead_312 (by decide) ?_
      refine lv_goto (tgt := 317) hx hb dL_isAhead_313 (by decide) ?_
      refine W.widen (k := 16) (n := 96) (by decide) (by decide) ?_
      refine vx_ret ?_
      exact W.zret (v := 1) hx hb hr rfl (z_endy (c10, v7) hw_56 hP hD hS rfl) hS.2.2 dL_isAhead_317 hlocks
    · refine lv_aload_n hx hb dL_isAhead_0 rfl (lv_at hl 0 rfl) ?_
      have hPc : va_P E.1 vwCl ([(z_W E xa na ma mb ad tx ln nx ct f0 f1 g ga gb v).flatten] : List va_W).flatten H := zf_sub hP [0] rfl
      refine z_rdv (va_runV (As := []) (rest := []) ⟨hx, hb, hml, hown, hts⟩ (c_X9_digest l E xa na ma mb ad tx ln nx ct f0 f1 g ga gb v hw) (cwV 0 hts gL_isAhead_X9_digest rfl rfl rfl (by decide +kernel) ⟨Nat.le_of_ble_eq_true rfl, Nat.le_of_ble_eq_true rfl⟩) ⟨zPr.blind, va_recv hK.1 hPc (ci := 8) (q0 := 0) rfl rfl, z_prer hK hPc⟩ rfl rfl hl.1 rfl (lv_room (Nat.le_of_ble_eq_true rfl)) dL_isAhead_1 ⟨Nat.le_of_ble_eq_true rfl, Nat.le_of_ble_eq_true rfl⟩) ?_
      refine W.eq (g2 := F0 Mi 4 ls [.long (m_dg g)]) rfl ?_
      refine lv_lstore_n (lv' := [(2, .long (m_dg g)), (0, .ref (xa 0)), (1, .int x)]) hx hb dL_isAhead_4 rfl hl (by decide) rfl (fun ls hl => ?_)
      refine lv_aload_n hx hb dL_isAhead_5 rfl (lv_at hl 1 rfl) ?_
      refine lv_iload_n hx hb dL_isAhead_6 rfl (lv_at hl 2 rfl) ?_
      have ph_7 : 1 ≤ x ∧ x ≤ 20 := ⟨by rw [hxe]; exact nI_le (a := 1) he1 (by omega), by rw [hxe]; exact nI_le (b := 20) he2 (by decide)⟩
      have hPc : va_P E.1 vwCl ([(z_W E xa na ma mb ad tx ln nx ct f0 f1 g ga gb v).flatten] : List va_W).flatten H := zf_sub hP [0] rfl
      have hDc : va_D A ([(z_W E xa na ma mb ad tx ln nx ct f0 f1 g ga gb v).flatten] : List va_W).flatten := zf_subD hD [0] (by decide) rfl
      refine z_xmut (Sc := [(z_W E xa na ma mb ad tx ln nx ct f0 f1 g ga gb v).flatten]) (Sr := []) (W1 := [(z_W E xa na ma mb ad tx ln nx ct f0 f1 g ga gb v).flatten]) (vx_runV (As := [.int x]) (rest := []) ⟨hx, hb, hml, hown, hts⟩ (c_X9_minutesToAlarm l E sa hl0 xa na ma mb ad tx ln nx ct f0 f1 g ga gb v hw x H.size) (cwV 1 hts gL_isAhead_X9_minutesToAlarm rfl rfl rfl (by decide +kernel) ⟨Nat.le_of_ble_eq_true rfl, Nat.le_of_ble_eq_true rfl⟩) ⟨zPE.blind, va_recv hK.1 hPc (ci := 8) (q0 := 0) rfl rfl, z_preE hK hT hZ hS (zf_free hD hS hA [0] rfl) hPc hDc⟩ rfl rfl hl.1 rfl (lv_room (Nat.le_of_ble_eq_true rfl)) dL_isAhead_7 ⟨Nat.le_of_ble_eq_true rfl, Nat.le_of_ble_eq_true rfl⟩) hP hD hS hA [0] [] rfl rfl (by decide) (by decide) (fun Ex ce q9 H locs hps hP hD hS hce hcv hcl => ?_) (fun H locs _ hP hD hS => ?_)
      · exact (absurd ph_7 hps.2)
      have hP : va_P E.1 vwCl ([(z_W E xa na ma mb ad tx ln nx ct f0 f1 g ga gb v).flatten] : List va_W).flatten H := hP
      have hD : va_D A ([(z_W E xa na ma mb ad tx ln nx ct f0 f1 g ga gb v).flatten] : List va_W).flatten := hD
      refine W.widen (k := 1) (n := 6) (by decide) (by decide) ?_
      refine W.eq (g2 := F0 Mi 10 ls [.int (m_muC g x)]) rfl ?_
      refine z_topi (y := nI i) ek ?_
      refine lv_istore (lv' := [(4, .int (nI i)), (2, .long (m_dg g)), (0, .ref (xa 0)), (1, .int x)]) hx hb dL_isAhead_10 hl (by decide) rfl (fun ls hl => ?_)
      refine lv_aload_n hx hb dL_isAhead_12 rfl (lv_at hl 2 rfl) ?_
      have hPc : va_P E.1 vwCl ([(z_W E xa na ma mb ad tx ln nx ct f0 f1 g ga gb v).flatten] : List va_W).flatten H := zf_sub hP [0] rfl
      refine z_rdv (va_runV (As := []) (rest := []) ⟨hx, hb, hml, hown, hts⟩ (c_X9_isStation l E xa na ma mb ad tx ln nx ct f0 f1 g ga gb v hw) (cwV 0 hts gL_isAhead_X9_isStation rfl rfl rfl (by decide +kernel) ⟨Nat.le_of_ble_eq_true rfl, Nat.le_of_ble_eq_true rfl⟩) ⟨zPr.blind, va_recv hK.1 hPc (ci := 8) (q0 := 0) rfl rfl, z_prer hK hPc⟩ rfl rfl hl.1 rfl (lv_room (Nat.le_of_ble_eq_true rfl)) dL_isAhead_13 ⟨Nat.le_of_ble_eq_true rfl, Nat.le_of_ble_eq_true rfl⟩) ?_
      refine W.eq (g2 := F0 Mi 16 ls [.int (g 2)]) rfl ?_
      refine lv_if_ne (tgt := 25) hx hb dL_isAhead_16 (by decide) (fun _ => ?_) (fun h9 => absurd h9 (c2))
      refine lv_iload hx hb dL_isAhead_25 (lv_at hl 0 rfl) ?_
      refine lv_if_ne (tgt := 34) hx hb dL_isAhead_27 (by decide) (fun _ => ?_) (fun h9 => absurd h9 (nI_ne0 (by omega) (by omega)))
      refine lv_iconst (v := 0) hx hb dL_isAhead_34 (by decide) ?_
      refine lv_aload_n hx hb dL_isAhead_35 rfl (lv_at hl 2 rfl) ?_
      have hPc : va_P E.1 vwCl ([(z_W E xa na ma mb ad tx ln nx ct f0 f1 g ga gb v).flatten] : List va_W).flatten H := zf_sub hP [0] rfl
      refine z_rdv (va_runV (As := []) (rest := [.int 0]) ⟨hx, hb, hml, hown, hts⟩ (c_X9_isStation l E xa na ma mb ad tx ln nx ct f0 f1 g ga gb v hw) (cwV 0 hts gL_isAhead_X9_isStation rfl rfl rfl (by decide +kernel) ⟨Nat.le_of_ble_eq_true rfl, Nat.le_of_ble_eq_true rfl⟩) ⟨zPr.blind, va_recv hK.1 hPc (ci := 8) (q0 := 0) rfl rfl, z_prer hK hPc⟩ rfl rfl hl.1 rfl (lv_room (Nat.le_of_ble_eq_true rfl)) dL_isAhead_36 ⟨Nat.le_of_ble_eq_true rfl, Nat.le_of_ble_eq_true rfl⟩) ?_
      refine W.eq (g2 := F0 Mi 39 ls [.int (g 2), .int 0]) rfl ?_
      refine lv_if_eq (tgt := 53) hx hb dL_isAhead_39 (by decide) (fun h9 => absurd h9 (c2)) (fun _ => ?_)
      refine lv_aload_n hx hb dL_isAhead_42 rfl (lv_at hl 2 rfl) ?_
      have hPc : va_P E.1 vwCl ([(z_W E xa na ma mb ad tx ln nx ct f0 f1 g ga gb v).flatten] : List va_W).flatten H := zf_sub hP [0] rfl
      refine z_rdv (va_runV (As := []) (rest := [.int 0]) ⟨hx, hb, hml, hown, hts⟩ (c_X9_isAlarm l E xa na ma mb ad tx ln nx ct f0 f1 g ga gb v hw) (cwV 0 hts gL_isAhead_X9_isAlarm rfl rfl rfl (by decide +kernel) ⟨Nat.le_of_ble_eq_true rfl, Nat.le_of_ble_eq_true rfl⟩) ⟨zPr.blind, va_recv hK.1 hPc (ci := 8) (q0 := 0) rfl rfl, z_prer hK hPc⟩ rfl rfl hl.1 rfl (lv_room (Nat.le_of_ble_eq_true rfl)) dL_isAhead_43 ⟨Nat.le_of_ble_eq_true rfl, Nat.le_of_ble_eq_true rfl⟩) ?_
      refine W.eq (g2 := F0 Mi 46 ls [.int (m_al (m_n (g 14)) (m_log g) (g 11)), .int 0]) rfl ?_
      refine lv_if_eq (tgt := 53) hx hb dL_isAhead_46 (by decide) (fun _ => ?_) (fun h9 => absurd (ca) h9)
      refine lv_iconst (v := 0) hx hb dL_isAhead_53 (by decide) ?_
      refine lv_icmp_ne (tgt := 61) hx hb dL_isAhead_54 (by decide) (fun h9 => absurd ((by decide)) h9) (fun _ => ?_)
      refine lv_iconst (v := 1) hx hb dL_isAhead_57 (by decide) ?_
      refine lv_goto (tgt := 62) hx hb dL_isAhead_58 (by decide) ?_
      refine lv_istore (lv' := [(5, .int 1), (4, .int (nI i)), (2, .long (m_dg g)), (0, .ref (xa 0)), (1, .int x)]) hx hb dL_isAhead_62 hl (by decide) rfl (fun ls hl => ?_)
      refine lv_aload_n hx hb dL_isAhead_64 rfl (lv_at hl 3 rfl) ?_
      have hPc : va_P E.1 vwCl ([(z_W E xa na ma mb ad tx ln nx ct f0 f1 g ga gb v).flatten] : List va_W).flatten H := zf_sub hP [0] rfl
      refine z_rdv (va_runV (As := []) (rest := []) ⟨hx, hb, hml, hown, hts⟩ (c_X9_pressure l E xa na ma mb ad tx ln nx ct f0 f1 g ga gb v hw) (cwV 0 hts gL_isAhead_X9_pressure rfl rfl rfl (by decide +kernel) ⟨Nat.le_of_ble_eq_true rfl, Nat.le_of_ble_eq_true rfl⟩) ⟨zPr.blind, va_recv hK.1 hPc (ci := 8) (q0 := 0) rfl rfl, z_prer hK hPc⟩ rfl rfl hl.1 rfl (lv_room (Nat.le_of_ble_eq_true rfl)) dL_isAhead_65 ⟨Nat.le_of_ble_eq_true rfl, Nat.le_of_ble_eq_true rfl⟩) ?_
      refine W.eq (g2 := F0 Mi 68 ls [.int (g 0)]) rfl ?_
      refine lv_istore (lv' := [(6, .int (g 0)), (5, .int 1), (4, .int (nI i)), (2, .long (m_dg g)), (0, .ref (xa 0)), (1, .int x)]) hx hb dL_isAhead_68 hl (by decide) rfl (fun ls hl => ?_)
      refine lv_iload hx hb dL_isAhead_70 (lv_at hl 1 rfl) ?_
      refine lv_if_eq (tgt := 184) hx hb dL_isAhead_72 (by decide) (fun h9 => absurd h9 ((by decide))) (fun _ => ?_)
      refine lv_iload hx hb dL_isAhead_75 (lv_at hl 2 rfl) ?_
      refine lv_if_le (tgt := 184) hx hb dL_isAhead_77 (by decide) (fun h9 => absurd h9 (nI_nle (by omega) (by omega))) (fun _ => ?_)
      refine lv_iload hx hb dL_isAhead_80 (lv_at hl 2 rfl) ?_
      refine lv_bipush (v := 120) hx hb dL_isAhead_82 (by decide) ?_
      refine lv_icmp_gt (tgt := 184) hx hb dL_isAhead_84 (by decide) (fun h9 => absurd h9 (nI_nlt (a := 120) (b := i) (by omega) (by decide))) (fun _ => ?_)
      refine lv_aload_n hx hb dL_isAhead_87 rfl (lv_at hl 4 rfl) ?_
      refine lv_iload hx hb dL_isAhead_88 (lv_at hl 2 rfl) ?_
      refine lv_iload hx hb dL_isAhead_90 (lv_at hl 0 rfl) ?_
      refine lv_iload hx hb dL_isAhead_92 (lv_at hl 2 rfl) ?_
      refine lv_iload_n hx hb dL_isAhead_94 rfl (lv_at hl 5 rfl) ?_
      refine lv_imul hx hb dL_isAhead_95 ?_
      refine lv_isub hx hb dL_isAhead_96 ?_
      have ph_97 : (1 ≤ (nI i) ∧ (nI i) ≤ 120) ∧ (5000 ≤ ((g 0) - ((nI i) * x)) ∧ ((g 0) - ((nI i) * x)) ≤ 11000) := leg
      have hPc : va_P E.1 vwCl ([(z_W E xa na ma mb ad tx ln nx ct f0 f1 g ga gb v).flatten] : List va_W).flatten H := zf_sub hP [0] rfl
      have hDc : va_D A ([(z_W E xa na ma mb ad tx ln nx ct f0 f1 g ga gb v).flatten] : List va_W).flatten := zf_subD hD [0] (by decide) rfl
      refine z_xmut (Sc := [(z_W E xa na ma mb ad tx ln nx ct f0 f1 g ga gb v).flatten]) (Sr := []) (W1 := [(z_W E xa na ma mb ad tx ln (nI ((m_n nx + 1) % 6)) (nI (if m_n ct < 6 then m_n ct + 1 else 6)) f0 f1 (m_tripC g (nI i) ((g 0) - ((nI i) * x)) (m_n (nI i))) ga gb (va_up v (m_n nx) g)).flatten]) (vx_runV (As := [.int (nI i), .int ((g 0) - ((nI i) * x))]) (rest := []) ⟨hx, hb, hml, hown, hts⟩ (c_X9_travel l E sa hl0 xa na ma mb ad tx ln nx ct f0 f1 g ga gb v hw (nI i) ((g 0) - ((nI i) * x)) H.size) (cwV 2 hts gL_isAhead_X9_travel rfl rfl rfl (by decide +kernel) ⟨Nat.le_of_ble_eq_true rfl, Nat.le_of_ble_eq_true rfl⟩) ⟨zPE.blind, va_recv hK.1 hPc (ci := 8) (q0 := 0) rfl rfl, z_preE hK hT hZ hS (zf_free hD hS hA [0] rfl) hPc hDc⟩ rfl rfl hl.1 rfl (lv_room (Nat.le_of_ble_eq_true rfl)) dL_isAhead_97 ⟨Nat.le_of_ble_eq_true rfl, Nat.le_of_ble_eq_true rfl⟩) hP hD hS hA [0] [] rfl rfl (by decide) (by decide) (fun Ex ce q9 H locs hps hP hD hS hce hcv hcl => ?_) (fun H locs _ hP hD hS => ?_)
      · exact (absurd ph_97 hps.2)
      have hP : va_P E.1 vwCl ([(z_W E xa na ma mb ad tx ln (nI ((m_n nx + 1) % 6)) (nI (if m_n ct < 6 then m_n ct + 1 else 6)) f0 f1 (m_tripC g (nI i) ((g 0) - ((nI i) * x)) (m_n (nI i))) ga gb (va_up v (m_n nx) g)).flatten] : List va_W).flatten H := hP
      have hD : va_D A ([(z_W E xa na ma mb ad tx ln (nI ((m_n nx + 1) % 6)) (nI (if m_n ct < 6 then m_n ct + 1 else 6)) f0 f1 (m_tripC g (nI i) ((g 0) - ((nI i) * x)) (m_n (nI i))) ga gb (va_up v (m_n nx) g)).flatten] : List va_W).flatten := hD
      refine W.widen (k := 3) (n := 18) (by decide) (by decide) ?_
      refine W.eq (g2 := F0 Mi 100 ls [.int (m_std ((m_tripC g (nI i) ((g 0) - ((nI i) * x)) (m_n (nI i))) 0) - m_std ((m_tripC g (nI i) ((g 0) - ((nI i) * x)) (m_n (nI i))) 1))]) rfl ?_
      have hw_57 : z_wk ln (nI ((m_n nx + 1) % 6)) (nI (if m_n ct < 6 then m_n ct + 1 else 6)) f0 f1 (m_tripC g (nI i) ((g 0) - ((nI i) * x)) (m_n (nI i))) ga gb (va_up v (m_n nx) g) := z_wk_save hw (show z_ok (m_tripC g (nI i) ((g 0) - ((nI i) * x)) (m_n (nI i))) from z_ok_trip hw.1 _)
      obtain ⟨n1, e_n1⟩ : ∃ z, z = (nI ((m_n nx + 1) % 6)) := ⟨_, rfl⟩
      obtain ⟨c1, e_c1⟩ : ∃ z, z = (nI (if m_n ct < 6 then m_n ct + 1 else 6)) := ⟨_, rfl⟩
      obtain ⟨v1, e_v1⟩ : ∃ z, z = (va_up v (m_n nx) g) := ⟨_, rfl⟩
      have hP : va_P E.1 vwCl ([(z_W E xa na ma mb ad tx ln n1 c1 f0 f1 (m_tripC g (nI i) ((g 0) - ((nI i) * x)) (m_n (nI i))) ga gb v1).flatten] : List va_W).flatten H := by rw [e_n1, e_c1, e_v1]; exact hP
      have hD : va_D A ([(z_W E xa na ma mb ad tx ln n1 c1 f0 f1 (m_tripC g (nI i) ((g 0) - ((nI i) * x)) (m_n (nI i))) ga gb v1).flatten] : List va_W).flatten := by rw [e_n1, e_c1, e_v1]; exact hD
      have hw_58 : z_wk ln n1 c1 f0 f1 (m_tripC g (nI i) ((g 0) - ((nI i) * x)) (m_n (nI i))) ga gb v1 := by rw [e_n1, e_c1, e_v1]; exact hw_57
      refine lv_aload_n hx hb dL_isAhead_100 rfl (lv_at hl 4 rfl) ?_
      have hPc : va_P E.1 vwCl ([(z_W E xa na ma mb ad tx ln n1 c1 f0 f1 (m_tripC g (nI i) ((g 0) - ((nI i) * x)) (m_n (nI i))) ga gb v1).flatten] : List va_W).flatten H := zf_sub hP [0] rfl
      refine z_rdv (va_runV (As := []) (rest := [.int (m_std ((m_tripC g (nI i) ((g 0) - ((nI i) * x)) (m_n (nI i))) 0) - m_std ((m_tripC g (nI i) ((g 0) - ((nI i) * x)) (m_n (nI i))) 1))]) ⟨hx, hb, hml, hown, hts⟩ (c_X9_altitude l E xa na ma mb ad tx ln n1 c1 f0 f1 (m_tripC g (nI i) ((g 0) - ((nI i) * x)) (m_n (nI i))) ga gb v1 hw_58) (cwV 0 hts gL_isAhead_X9_altitude rfl rfl rfl (by decide +kernel) ⟨Nat.le_of_ble_eq_true rfl, Nat.le_of_ble_eq_true rfl⟩) ⟨zPr.blind, va_recv hK.1 hPc (ci := 8) (q0 := 0) rfl rfl, z_prer hK hPc⟩ rfl rfl hl.1 rfl (lv_room (Nat.le_of_ble_eq_true rfl)) dL_isAhead_101 ⟨Nat.le_of_ble_eq_true rfl, Nat.le_of_ble_eq_true rfl⟩) ?_
      refine W.eq (g2 := F0 Mi 104 ls [.int (m_std ((m_tripC g (nI i) ((g 0) - ((nI i) * x)) (m_n (nI i))) 0) - m_std ((m_tripC g (nI i) ((g 0) - ((nI i) * x)) (m_n (nI i))) 1)), .int (m_std ((m_tripC g (nI i) ((g 0) - ((nI i) * x)) (m_n (nI i))) 0) - m_std ((m_tripC g (nI i) ((g 0) - ((nI i) * x)) (m_n (nI i))) 1))]) rfl ?_
      refine lv_icmp_ne (tgt := 125) hx hb dL_isAhead_104 (by decide) (fun h9 => absurd (rfl) h9) (fun _ => ?_)
      refine lv_aload_n hx hb dL_isAhead_107 rfl (lv_at hl 4 rfl) ?_
      have hPc : va_P E.1 vwCl ([(z_W E xa na ma mb ad tx ln n1 c1 f0 f1 (m_tripC g (nI i) ((g 0) - ((nI i) * x)) (m_n (nI i))) ga gb v1).flatten] : List va_W).flatten H := zf_sub hP [0] rfl
      refine z_rdv (va_runV (As := []) (rest := []) ⟨hx, hb, hml, hown, hts⟩ (c_X9_isAlarm l E xa na ma mb ad tx ln n1 c1 f0 f1 (m_tripC g (nI i) ((g 0) - ((nI i) * x)) (m_n (nI i))) ga gb v1 hw_58) (cwV 0 hts gL_isAhead_X9_isAlarm rfl rfl rfl (by decide +kernel) ⟨Nat.le_of_ble_eq_true rfl, Nat.le_of_ble_eq_true rfl⟩) ⟨zPr.blind, va_recv hK.1 hPc (ci := 8) (q0 := 0) rfl rfl, z_prer hK hPc⟩ rfl rfl hl.1 rfl (lv_room (Nat.le_of_ble_eq_true rfl)) dL_isAhead_108 ⟨Nat.le_of_ble_eq_true rfl, Nat.le_of_ble_eq_true rfl⟩) ?_
      refine W.eq (g2 := F0 Mi 111 ls [.int (m_al (m_n ((m_tripC g (nI i) ((g 0) - ((nI i) * x)) (m_n (nI i))) 14)) (m_log (m_tripC g (nI i) ((g 0) - ((nI i) * x)) (m_n (nI i)))) ((m_tripC g (nI i) ((g 0) - ((nI i) * x)) (m_n (nI i))) 11))]) rfl ?_
      refine lv_if_eq (tgt := 125) hx hb dL_isAhead_111 (by decide) (fun h9 => absurd h9 (al1)) (fun _ => ?_)
      refine lv_aload_n hx hb dL_isAhead_114 rfl (lv_at hl 4 rfl) ?_
      have ph_115 : ¬ c1 = 0 := r_ne (r_lo1 (r_lo0 hw.2.2.1) (by decide) e_c1)
      have hPc : va_P E.1 vwCl ([(z_W E xa na ma mb ad tx ln n1 c1 f0 f1 (m_tripC g (nI i) ((g 0) - ((nI i) * x)) (m_n (nI i))) ga gb v1).flatten] : List va_W).flatten H := zf_sub hP [0] rfl
      have hDc : va_D A ([(z_W E xa na ma mb ad tx ln n1 c1 f0 f1 (m_tripC g (nI i) ((g 0) - ((nI i) * x)) (m_n (nI i))) ga gb v1).flatten] : List va_W).flatten := zf_subD hD [0] (by decide) rfl
      refine z_xmut (Sc := [(z_W E xa na ma mb ad tx ln n1 c1 f0 f1 (m_tripC g (nI i) ((g 0) - ((nI i) * x)) (m_n (nI i))) ga gb v1).flatten]) (Sr := []) (W1 := [(z_W E xa na ma mb ad tx ln nx (nI (m_n c1 - 1)) f0 f1 g ga gb v1).flatten]) (vx_runV (As := []) (rest := []) ⟨hx, hb, hml, hown, hts⟩ (c_X9_undoG l E sa hl0 xa na ma mb ad tx ln n1 c1 f0 f1 (m_tripC g (nI i) ((g 0) - ((nI i) * x)) (m_n (nI i))) ga gb v1 hw_58 (r_e1 hw.2.1 e_n1) (r_e2 hw.2.1 e_n1 e_v1) H.size) (cwV 0 hts gL_isAhead_X9_undo rfl rfl rfl (by decide +kernel) ⟨Nat.le_of_ble_eq_true rfl, Nat.le_of_ble_eq_true rfl⟩) ⟨zPE.blind, va_recv hK.1 hPc (ci := 8) (q0 := 0) rfl rfl, z_preE hK hT hZ hS (zf_free hD hS hA [0] rfl) hPc hDc⟩ rfl rfl hl.1 rfl (lv_room (Nat.le_of_ble_eq_true rfl)) dL_isAhead_115 ⟨Nat.le_of_ble_eq_true rfl, Nat.le_of_ble_eq_true rfl⟩) hP hD hS hA [0] [] rfl rfl (by decide) (by decide) (fun Ex ce q9 H locs hps hP hD hS hce hcv hcl => ?_) (fun H locs _ hP hD hS => ?_)
      · exact (absurd hps.2 ph_115)
      have hP : va_P E.1 vwCl ([(z_W E xa na ma mb ad tx ln nx (nI (m_n c1 - 1)) f0 f1 g ga gb v1).flatten] : List va_W).flatten H := hP
      have hD : va_D A ([(z_W E xa na ma mb ad tx ln nx (nI (m_n c1 - 1)) f0 f1 g ga gb v1).flatten] : List va_W).flatten := hD
      refine W.widen (k := 4) (n := 24) (by decide) (by decide) ?_
      refine W.eq (g2 := F0 Mi 118 ls [.int (nI (m_n c1 - 1))]) rfl ?_
      have hw_59 : z_wk ln nx (nI (m_n c1 - 1)) f0 f1 g ga gb v1 := r_wku hw_58 (r_e1 hw.2.1 e_n1) (r_e2 hw.2.1 e_n1 e_v1) rfl hw.1
      obtain ⟨c2, e_c2⟩ : ∃ z, z = (nI (m_n c1 - 1)) := ⟨_, rfl⟩
      have hP : va_P E.1 vwCl ([(z_W E xa na ma mb ad tx ln nx c2 f0 f1 g ga gb v1).flatten] : List va_W).flatten H := by rw [e_c2]; exact hP
      have hD : va_D A ([(z_W E xa na ma mb ad tx ln nx c2 f0 f1 g ga gb v1).flatten] : List va_W).flatten := by rw [e_c2]; exact hD
      have hw_60 : z_wk ln nx c2 f0 f1 g ga gb v1 := by rw [e_c2]; exact hw_59
      refine lv_if_lt (tgt := 125) hx hb dL_isAhead_118 (by decide) (fun h9 => absurd h9 (r_nn c1)) (fun _ => ?_)
      refine lv_iconst (v := 1) hx hb dL_isAhead_121 (by decide) ?_
      refine lv_goto (tgt := 126) hx hb dL_isAhead_122 (by decide) ?_
      refine lv_istore (lv' := [(5, .int 1), (6, .int (g 0)), (4, .int (nI i)), (2, .long (m_dg g)), (0, .ref (xa 0)), (1, .int x)]) hx hb dL_isAhead_126 hl (by decide) rfl (fun ls hl => ?_)
      refine lv_iload hx hb dL_isAhead_128 (lv_at hl 0 rfl) ?_
      refine lv_if_eq (tgt := 181) hx hb dL_isAhead_130 (by decide) (fun h9 => absurd h9 ((by decide))) (fun _ => ?_)
      refine lv_iload hx hb dL_isAhead_133 (lv_at hl 2 rfl) ?_
      refine lv_iconst (v := 1) hx hb dL_isAhead_135 (by decide) ?_
      refine lv_icmp_eq (tgt := 177) hx hb dL_isAhead_136 (by decide) (fun h9 => absurd h9 ((fun z => hi ((nI_eq (b := 1) (by omega) (by decide)).mp z)))) (fun _ => ?_)
      refine lv_aload_n hx hb dL_isAhead_139 rfl (lv_at hl 4 rfl) ?_
      refine lv_iload hx hb dL_isAhead_140 (lv_at hl 2 rfl) ?_
      refine lv_iconst (v := 1) hx hb dL_isAhead_142 (by decide) ?_
      refine lv_isub hx hb dL_isAhead_143 ?_
      refine lv_iload hx hb dL_isAhead_144 (lv_at hl 1 rfl) ?_
      refine lv_iload hx hb dL_isAhead_146 (lv_at hl 2 rfl) ?_
      refine lv_iconst (v := 1) hx hb dL_isAhead_148 (by decide) ?_
      refine lv_isub hx hb dL_isAhead_149 ?_
      refine lv_iload_n hx hb dL_isAhead_150 rfl (lv_at hl 5 rfl) ?_
      refine lv_imul hx hb dL_isAhead_151 ?_
      refine lv_isub hx hb dL_isAhead_152 ?_
      have ph_153 : (1 ≤ ((nI i) - 1) ∧ ((nI i) - 1) ≤ 120) ∧ (5000 ≤ ((g 0) - (((nI i) - 1) * x)) ∧ ((g 0) - (((nI i) - 1) * x)) ≤ 11000) := (al2 (by omega)).1
      have hPc : va_P E.1 vwCl ([(z_W E xa na ma mb ad tx ln nx c2 f0 f1 g ga gb v1).flatten] : List va_W).flatten H := zf_sub hP [0] rfl
      have hDc : va_D A ([(z_W E xa na ma mb ad tx ln nx c2 f0 f1 g ga gb v1).flatten] : List va_W).flatten := zf_subD hD [0] (by decide) rfl
      refine z_xmut (Sc := [(z_W E xa na ma mb ad tx ln nx c2 f0 f1 g ga gb v1).flatten]) (Sr := []) (W1 := [(z_W E xa na ma mb ad tx ln (nI ((m_n nx + 1) % 6)) (nI (if m_n c2 < 6 then m_n c2 + 1 else 6)) f0 f1 (m_tripC g ((nI i) - 1) ((g 0) - (((nI i) - 1) * x)) (m_n ((nI i) - 1))) ga gb (va_up v1 (m_n nx) g)).flatten]) (vx_runV (As := [.int ((nI i) - 1), .int ((g 0) - (((nI i) - 1) * x))]) (rest := []) ⟨hx, hb, hml, hown, hts⟩ (c_X9_travel l E sa hl0 xa na ma mb ad tx ln nx c2 f0 f1 g ga gb v1 hw_60 ((nI i) - 1) ((g 0) - (((nI i) - 1) * x)) H.size) (cwV 2 hts gL_isAhead_X9_travel rfl rfl rfl (by decide +kernel) ⟨Nat.le_of_ble_eq_true rfl, Nat.le_of_ble_eq_true rfl⟩) ⟨zPE.blind, va_recv hK.1 hPc (ci := 8) (q0 := 0) rfl rfl, z_preE hK hT hZ hS (zf_free hD hS hA [0] rfl) hPc hDc⟩ rfl rfl hl.1 rfl (lv_room (Nat.le_of_ble_eq_true rfl)) dL_isAhead_153 ⟨Nat.le_of_ble_eq_true rfl, Nat.le_of_ble_eq_true rfl⟩) hP hD hS hA [0] [] rfl rfl (by decide) (by decide) (fun Ex ce q9 H locs hps hP hD hS hce hcv hcl => ?_) (fun H locs _ hP hD hS => ?_)
      · exact (absurd ph_153 hps.2)
      have hP : va_P E.1 vwCl ([(z_W E xa na ma mb ad tx ln (nI ((m_n nx + 1) % 6)) (nI (if m_n c2 < 6 then m_n c2 + 1 else 6)) f0 f1 (m_tripC g ((nI i) - 1) ((g 0) - (((nI i) - 1) * x)) (m_n ((nI i) - 1))) ga gb (va_up v1 (m_n nx) g)).flatten] : List va_W).flatten H := hP
      have hD : va_D A ([(z_W E xa na ma mb ad tx ln (nI ((m_n nx + 1) % 6)) (nI (if m_n c2 < 6 then m_n c2 + 1 else 6)) f0 f1 (m_tripC g ((nI i) - 1) ((g 0) - (((nI i) - 1) * x)) (m_n ((nI i) - 1))) ga gb (va_up v1 (m_n nx) g)).flatten] : List va_W).flatten := hD
      refine W.widen (k := 6) (n := 36) (by decide) (by decide) ?_
      refine W.eq (g2 := F0 Mi 156 ls [.int (m_std ((m_tripC g ((nI i) - 1) ((g 0) - (((nI i) - 1) * x)) (m_n ((nI i) - 1))) 0) - m_std ((m_tripC g ((nI i) - 1) ((g 0) - (((nI i) - 1) * x)) (m_n ((nI i) - 1))) 1))]) rfl ?_
      have hw_61 : z_wk ln (nI ((m_n nx + 1) % 6)) (nI (if m_n c2 < 6 then m_n c2 + 1 else 6)) f0 f1 (m_tripC g ((nI i) - 1) ((g 0) - (((nI i) - 1) * x)) (m_n ((nI i) - 1))) ga gb (va_up v1 (m_n nx) g) := z_wk_save hw_60 (show z_ok (m_tripC g ((nI i) - 1) ((g 0) - (((nI i) - 1) * x)) (m_n ((nI i) - 1))) from z_ok_trip hw.1 _)
      obtain ⟨n2, e_n2⟩ : ∃ z, z = (nI ((m_n nx + 1) % 6)) := ⟨_, rfl⟩
      obtain ⟨c3, e_c3⟩ : ∃ z, z = (nI (if m_n c2 < 6 then m_n c2 + 1 else 6)) := ⟨_, rfl⟩
      obtain ⟨v2, e_v2⟩ : ∃ z, z = (va_up v1 (m_n nx) g) := ⟨_, rfl⟩
      have hP : va_P E.1 vwCl ([(z_W E xa na ma mb ad tx ln n2 c3 f0 f1 (m_tripC g ((nI i) - 1) ((g 0) - (((nI i) - 1) * x)) (m_n ((nI i) - 1))) ga gb v2).flatten] : List va_W).flatten H := by rw [e_n2, e_c3, e_v2]; exact hP
      have hD : va_D A ([(z_W E xa na ma mb ad tx ln n2 c3 f0 f1 (m_tripC g ((nI i) - 1) ((g 0) - (((nI i) - 1) * x)) (m_n ((nI i) - 1))) ga gb v2).flatten] : List va_W).flatten := by rw [e_n2, e_c3, e_v2]; exact hD
      have hw_62 : z_wk ln n2 c3 f0 f1 (m_tripC g ((nI i) - 1) ((g 0) - (((nI i) - 1) * x)) (m_n ((nI i) - 1))) ga gb v2 := by rw [e_n2, e_c3, e_v2]; exact hw_61
      refine lv_aload_n hx hb dL_isAhead_156 rfl (lv_at hl 4 rfl) ?_
      have hPc : va_P E.1 vwCl ([(z_W E xa na ma mb ad tx ln n2 c3 f0 f1 (m_tripC g ((nI i) - 1) ((g 0) - (((nI i) - 1) * x)) (m_n ((nI i) - 1))) ga gb v2).flatten] : List va_W).flatten H := zf_sub hP [0] rfl
      refine z_rdv (va_runV (As := []) (rest := [.int (m_std ((m_tripC g ((nI i) - 1) ((g 0) - (((nI i) - 1) * x)) (m_n ((nI i) - 1))) 0) - m_std ((m_tripC g ((nI i) - 1) ((g 0) - (((nI i) - 1) * x)) (m_n ((nI i) - 1))) 1))]) ⟨hx, hb, hml, hown, hts⟩ (c_X9_altitude l E xa na ma mb ad tx ln n2 c3 f0 f1 (m_tripC g ((nI i) - 1) ((g 0) - (((nI i) - 1) * x)) (m_n ((nI i) - 1))) ga gb v2 hw_62) (cwV 0 hts gL_isAhead_X9_altitude rfl rfl rfl (by decide +kernel) ⟨Nat.le_of_ble_eq_true rfl, Nat.le_of_ble_eq_true rfl⟩) ⟨zPr.blind, va_recv hK.1 hPc (ci := 8) (q0 := 0) rfl rfl, z_prer hK hPc⟩ rfl rfl hl.1 rfl (lv_room (Nat.le_of_ble_eq_true rfl)) dL_isAhead_157 ⟨Nat.le_of_ble_eq_true rfl, Nat.le_of_ble_eq_true rfl⟩) ?_
      refine W.eq (g2 := F0 Mi 160 ls [.int (m_std ((m_tripC g ((nI i) - 1) ((g 0) - (((nI i) - 1) * x)) (m_n ((nI i) - 1))) 0) - m_std ((m_tripC g ((nI i) - 1) ((g 0) - (((nI i) - 1) * x)) (m_n ((nI i) - 1))) 1)), .int (m_std ((m_tripC g ((nI i) - 1) ((g 0) - (((nI i) - 1) * x)) (m_n ((nI i) - 1))) 0) - m_std ((m_tripC g ((nI i) - 1) ((g 0) - (((nI i) - 1) * x)) (m_n ((nI i) - 1))) 1))]) rfl ?_
      refine lv_icmp_ne (tgt := 181) hx hb dL_isAhead_160 (by decide) (fun h9 => absurd (rfl) h9) (fun _ => ?_)
      refine lv_aload_n hx hb dL_isAhead_163 rfl (lv_at hl 4 rfl) ?_
      have hPc : va_P E.1 vwCl ([(z_W E xa na ma mb ad tx ln n2 c3 f0 f1 (m_tripC g ((nI i) - 1) ((g 0) - (((nI i) - 1) * x)) (m_n ((nI i) - 1))) ga gb v2).flatten] : List va_W).flatten H := zf_sub hP [0] rfl
      refine z_rdv (va_runV (As := []) (rest := []) ⟨hx, hb, hml, hown, hts⟩ (c_X9_isAlarm l E xa na ma mb ad tx ln n2 c3 f0 f1 (m_tripC g ((nI i) - 1) ((g 0) - (((nI i) - 1) * x)) (m_n ((nI i) - 1))) ga gb v2 hw_62) (cwV 0 hts gL_isAhead_X9_isAlarm rfl rfl rfl (by decide +kernel) ⟨Nat.le_of_ble_eq_true rfl, Nat.le_of_ble_eq_true rfl⟩) ⟨zPr.blind, va_recv hK.1 hPc (ci := 8) (q0 := 0) rfl rfl, z_prer hK hPc⟩ rfl rfl hl.1 rfl (lv_room (Nat.le_of_ble_eq_true rfl)) dL_isAhead_164 ⟨Nat.le_of_ble_eq_true rfl, Nat.le_of_ble_eq_true rfl⟩) ?_
      refine W.eq (g2 := F0 Mi 167 ls [.int (m_al (m_n ((m_tripC g ((nI i) - 1) ((g 0) - (((nI i) - 1) * x)) (m_n ((nI i) - 1))) 14)) (m_log (m_tripC g ((nI i) - 1) ((g 0) - (((nI i) - 1) * x)) (m_n ((nI i) - 1)))) ((m_tripC g ((nI i) - 1) ((g 0) - (((nI i) - 1) * x)) (m_n ((nI i) - 1))) 11))]) rfl ?_
      refine lv_if_ne (tgt := 181) hx hb dL_isAhead_167 (by decide) (fun h9 => absurd ((al2 (by omega)).2) h9) (fun _ => ?_)
      refine lv_aload_n hx hb dL_isAhead_170 rfl (lv_at hl 4 rfl) ?_
      have ph_171 : ¬ c3 = 0 := r_ne (r_lo1 (r_lo0 hw_60.2.2.1) (by decide) e_c3)
      have hPc : va_P E.1 vwCl ([(z_W E xa na ma mb ad tx ln n2 c3 f0 f1 (m_tripC g ((nI i) - 1) ((g 0) - (((nI i) - 1) * x)) (m_n ((nI i) - 1))) ga gb v2).flatten] : List va_W).flatten H := zf_sub hP [0] rfl
      have hDc : va_D A ([(z_W E xa na ma mb ad tx ln n2 c3 f0 f1 (m_tripC g ((nI i) - 1) ((g 0) - (((nI i) - 1) * x)) (m_n ((nI i) - 1))) ga gb v2).flatten] : List va_W).flatten := zf_subD hD [0] (by decide) rfl
      refine z_xmut (Sc := [(z_W E xa na ma mb ad tx ln n2 c3 f0 f1 (m_tripC g ((nI i) - 1) ((g 0) - (((nI i) - 1) * x)) (m_n ((nI i) - 1))) ga gb v2).flatten]) (Sr := []) (W1 := [(z_W E xa na ma mb ad tx ln nx (nI (m_n c3 - 1)) f0 f1 g ga gb v2).flatten]) (vx_runV (As := []) (rest := []) ⟨hx, hb, hml, hown, hts⟩ (c_X9_undoG l E sa hl0 xa na ma mb ad tx ln n2 c3 f0 f1 (m_tripC g ((nI i) - 1) ((g 0) - (((nI i) - 1) * x)) (m_n ((nI i) - 1))) ga gb v2 hw_62 (r_e1 hw.2.1 e_n2) (r_e2 hw.2.1 e_n2 e_v2) H.size) (cwV 0 hts gL_isAhead_X9_undo rfl rfl rfl (by decide +kernel) ⟨Nat.le_of_ble_eq_true rfl, Nat.le_of_ble_eq_true rfl⟩) ⟨zPE.blind, va_recv hK.1 hPc (ci := 8) (q0 := 0) rfl rfl, z_preE hK hT hZ hS (zf_free hD hS hA [0] rfl) hPc hDc⟩ rfl rfl hl.1 rfl (lv_room (Nat.le_of_ble_eq_true rfl)) dL_isAhead_171 ⟨Nat.le_of_ble_eq_true rfl, Nat.le_of_ble_eq_true rfl⟩) hP hD hS hA [0] [] rfl rfl (by decide) (by decide) (fun Ex ce q9 H locs hps hP hD hS hce hcv hcl => ?_) (fun H locs _ hP hD hS => ?_)
      · exact (absurd hps.2 ph_171)
      have hP : va_P E.1 vwCl ([(z_W E xa na ma mb ad tx ln nx (nI (m_n c3 - 1)) f0 f1 g ga gb v2).flatten] : List va_W).flatten H := hP
      have hD : va_D A ([(z_W E xa na ma mb ad tx ln nx (nI (m_n c3 - 1)) f0 f1 g ga gb v2).flatten] : List va_W).flatten := hD
      refine W.widen (k := 7) (n := 42) (by decide) (by decide) ?_
      refine W.eq (g2 := F0 Mi 174 ls [.int (nI (m_n c3 - 1))]) rfl ?_
      have hw_63 : z_wk ln nx (nI (m_n c3 - 1)) f0 f1 g ga gb v2 := r_wku hw_62 (r_e1 hw.2.1 e_n2) (r_e2 hw.2.1 e_n2 e_v2) rfl hw.1
      obtain ⟨c4, e_c4⟩ : ∃ z, z = (nI (m_n c3 - 1)) := ⟨_, rfl⟩
      have hP : va_P E.1 vwCl ([(z_W E xa na ma mb ad tx ln nx c4 f0 f1 g ga gb v2).flatten] : List va_W).flatten H := by rw [e_c4]; exact hP
      have hD : va_D A ([(z_W E xa na ma mb ad tx ln nx c4 f0 f1 g ga gb v2).flatten] : List va_W).flatten := by rw [e_c4]; exact hD
      have hw_64 : z_wk ln nx c4 f0 f1 g ga gb v2 := by rw [e_c4]; exact hw_63
      refine lv_if_lt (tgt := 181) hx hb dL_isAhead_174 (by decide) (fun h9 => absurd h9 (r_nn c3)) (fun _ => ?_)
      refine lv_iconst (v := 1) hx hb dL_isAhead_177 (by decide) ?_
      refine lv_goto (tgt := 182) hx hb dL_isAhead_178 (by decide) ?_
      refine lv_istore (lv' := [(5, .int 1), (6, .int (g 0)), (4, .int (nI i)), (2, .long (m_dg g)), (0, .ref (xa 0)), (1, .int x)]) hx hb dL_isAhead_182 hl (by decide) rfl (fun ls hl => ?_)
      refine lv_aload_n hx hb dL_isAhead_184 rfl (lv_at hl 4 rfl) ?_
      refine lv_iconst (v := 1) hx hb dL_isAhead_185 (by decide) ?_
      have ph_186 : (0 : Int32) ≤ 1 ∧ (1 : Int32) ≤ 1 := ⟨by decide, by decide⟩
      have hPc : va_P E.1 vwCl ([(z_W E xa na ma mb ad tx ln nx c4 f0 f1 g ga gb v2).flatten] : List va_W).flatten H := zf_sub hP [0] rfl
      have hDc : va_D A ([(z_W E xa na ma mb ad tx ln nx c4 f0 f1 g ga gb v2).flatten] : List va_W).flatten := zf_subD hD [0] (by decide) rfl
      refine z_xmut (Sc := [(z_W E xa na ma mb ad tx ln nx c4 f0 f1 g ga gb v2).flatten]) (Sr := []) (W1 := [(z_W E xa na ma mb ad tx ln nx c4 f0 1 g ga g v2).flatten]) (vx_runV (As := [.int 1]) (rest := []) ⟨hx, hb, hml, hown, hts⟩ (c_X9_store1 l E sa hl0 xa na ma mb ad tx ln nx c4 f0 f1 g ga gb v2 hw_64 H.size) (cwV 1 hts gL_isAhead_X9_store rfl rfl rfl (by decide +kernel) ⟨Nat.le_of_ble_eq_true rfl, Nat.le_of_ble_eq_true rfl⟩) ⟨zPE.blind, va_recv hK.1 hPc (ci := 8) (q0 := 0) rfl rfl, z_preE hK hT hZ hS (zf_free hD hS hA [0] rfl) hPc hDc⟩ rfl rfl hl.1 rfl (lv_room (Nat.le_of_ble_eq_true rfl)) dL_isAhead_186 ⟨Nat.le_of_ble_eq_true rfl, Nat.le_of_ble_eq_true rfl⟩) hP hD hS hA [0] [] rfl rfl (by decide) (by decide) (fun Ex ce q9 H locs hps hP hD hS hce hcv hcl => ?_) (fun H locs _ hP hD hS => ?_)
      · exact (absurd ph_186 hps.2)
      have hP : va_P E.1 vwCl ([(z_W E xa na ma mb ad tx ln nx c4 f0 1 g ga g v2).flatten] : List va_W).flatten H := hP
      have hD : va_D A ([(z_W E xa na ma mb ad tx ln nx c4 f0 1 g ga g v2).flatten] : List va_W).flatten := hD
      refine W.widen (k := 8) (n := 48) (by decide) (by decide) ?_
      refine W.eq (g2 := F0 Mi 189 ls [.int (m_std (g 0) - m_std (g 1))]) rfl ?_
      have hw_65 : z_wk ln nx c4 f0 1 g ga g v2 := z_wk_st1 hw_64
      refine lv_istore (lv' := [(7, .int (m_std (g 0) - m_std (g 1))), (5, .int 1), (6, .int (g 0)), (4, .int (nI i)), (2, .long (m_dg g)), (0, .ref (xa 0)), (1, .int x)]) hx hb dL_isAhead_189 hl (by decide) rfl (fun ls hl => ?_)
      refine lv_iload hx hb dL_isAhead_191 (lv_at hl 1 rfl) ?_
      refine lv_if_eq (tgt := 274) hx hb dL_isAhead_193 (by decide) (fun h9 => absurd h9 ((by decide))) (fun _ => ?_)
      refine lv_iload hx hb dL_isAhead_196 (lv_at hl 0 rfl) ?_
      refine lv_aload_n hx hb dL_isAhead_198 rfl (lv_at hl 5 rfl) ?_
      have hPc : va_P E.1 vwCl ([(z_W E xa na ma mb ad tx ln nx c4 f0 1 g ga g v2).flatten] : List va_W).flatten H := zf_sub hP [0] rfl
      refine z_rdv (va_runV (As := []) (rest := [.int (m_std (g 0) - m_std (g 1))]) ⟨hx, hb, hml, hown, hts⟩ (c_X9_altitude l E xa na ma mb ad tx ln nx c4 f0 1 g ga g v2 hw_65) (cwV 0 hts gL_isAhead_X9_altitude rfl rfl rfl (by decide +kernel) ⟨Nat.le_of_ble_eq_true rfl, Nat.le_of_ble_eq_true rfl⟩) ⟨zPr.blind, va_recv hK.1 hPc (ci := 8) (q0 := 0) rfl rfl, z_prer hK hPc⟩ rfl rfl hl.1 rfl (lv_room (Nat.le_of_ble_eq_true rfl)) dL_isAhead_199 ⟨Nat.le_of_ble_eq_true rfl, Nat.le_of_ble_eq_true rfl⟩) ?_
      refine W.eq (g2 := F0 Mi 202 ls [.int (m_std (g 0) - m_std (g 1)), .int (m_std (g 0) - m_std (g 1))]) rfl ?_
      refine lv_icmp_ne (tgt := 274) hx hb dL_isAhead_202 (by decide) (fun h9 => absurd (rfl) h9) (fun _ => ?_)
      refine lv_aload_n hx hb dL_isAhead_205 rfl (lv_at hl 5 rfl) ?_
      have hPc : va_P E.1 vwCl ([(z_W E xa na ma mb ad tx ln nx c4 f0 1 g ga g v2).flatten] : List va_W).flatten H := zf_sub hP [0] rfl
      refine z_rdv (va_runV (As := []) (rest := []) ⟨hx, hb, hml, hown, hts⟩ (c_X9_digest l E xa na ma mb ad tx ln nx c4 f0 1 g ga g v2 hw_65) (cwV 0 hts gL_isAhead_X9_digest rfl rfl rfl (by decide +kernel) ⟨Nat.le_of_ble_eq_true rfl, Nat.le_of_ble_eq_true rfl⟩) ⟨zPr.blind, va_recv hK.1 hPc (ci := 8) (q0 := 0) rfl rfl, z_prer hK hPc⟩ rfl rfl hl.1 rfl (lv_room (Nat.le_of_ble_eq_true rfl)) dL_isAhead_206 ⟨Nat.le_of_ble_eq_true rfl, Nat.le_of_ble_eq_true rfl⟩) ?_
      refine W.eq (g2 := F0 Mi 209 ls [.long (m_dg g)]) rfl ?_
      refine lv_lload_n hx hb dL_isAhead_209 rfl (lv_at hl 4 rfl) ?_
      refine W.lcmp hx hb dL_isAhead_210 ?_
      refine lv_if_ne (tgt := 274) hx hb dL_isAhead_211 (by decide) (fun h9 => absurd (z_lcs _) h9) (fun _ => ?_)
      refine lv_aload_n hx hb dL_isAhead_214 rfl (lv_at hl 5 rfl) ?_
      refine lv_bipush (v := 77) hx hb dL_isAhead_215 (by decide) ?_
      have ph_217 : 10 ≤ (77 : Int32) ∧ (77 : Int32) ≤ 500 := ⟨by decide, by decide⟩
      have hPc : va_P E.1 vwCl ([(z_W E xa na ma mb ad tx ln nx c4 f0 1 g ga g v2).flatten] : List va_W).flatten H := zf_sub hP [0] rfl
      have hDc : va_D A ([(z_W E xa na ma mb ad tx ln nx c4 f0 1 g ga g v2).flatten] : List va_W).flatten := zf_subD hD [0] (by decide) rfl
      refine z_xmut (Sc := [(z_W E xa na ma mb ad tx ln nx c4 f0 1 g ga g v2).flatten]) (Sr := []) (W1 := [(z_W E xa na ma mb ad tx ln (nI ((m_n nx + 1) % 6)) (nI (if m_n c4 < 6 then m_n c4 + 1 else 6)) f0 1 (upd g 10 (77 : Int32)) ga g (va_up v2 (m_n nx) g)).flatten]) (vx_runV (As := [.int 77]) (rest := []) ⟨hx, hb, hml, hown, hts⟩ (c_X9_setThreshold l E sa hl0 xa na ma mb ad tx ln nx c4 f0 1 g ga g v2 hw_65 77 H.size) (cwV 1 hts gL_isAhead_X9_setThreshold rfl rfl rfl (by decide +kernel) ⟨Nat.le_of_ble_eq_true rfl, Nat.le_of_ble_eq_true rfl⟩) ⟨zPE.blind, va_recv hK.1 hPc (ci := 8) (q0 := 0) rfl rfl, z_preE hK hT hZ hS (zf_free hD hS hA [0] rfl) hPc hDc⟩ rfl rfl hl.1 rfl (lv_room (Nat.le_of_ble_eq_true rfl)) dL_isAhead_217 ⟨Nat.le_of_ble_eq_true rfl, Nat.le_of_ble_eq_true rfl⟩) hP hD hS hA [0] [] rfl rfl (by decide) (by decide) (fun Ex ce q9 H locs hps hP hD hS hce hcv hcl => ?_) (fun H locs _ hP hD hS => ?_)
      · exact (absurd ph_217 hps.2)
      have hP : va_P E.1 vwCl ([(z_W E xa na ma mb ad tx ln (nI ((m_n nx + 1) % 6)) (nI (if m_n c4 < 6 then m_n c4 + 1 else 6)) f0 1 (upd g 10 (77 : Int32)) ga g (va_up v2 (m_n nx) g)).flatten] : List va_W).flatten H := hP
      have hD : va_D A ([(z_W E xa na ma mb ad tx ln (nI ((m_n nx + 1) % 6)) (nI (if m_n c4 < 6 then m_n c4 + 1 else 6)) f0 1 (upd g 10 (77 : Int32)) ga g (va_up v2 (m_n nx) g)).flatten] : List va_W).flatten := hD
      refine W.widen (k := 9) (n := 54) (by decide) (by decide) ?_
      refine W.eq (g2 := F0 Mi 220 ls [.int (g 10)]) rfl ?_
      have hw_66 : z_wk ln (nI ((m_n nx + 1) % 6)) (nI (if m_n c4 < 6 then m_n c4 + 1 else 6)) f0 1 (upd g 10 (77 : Int32)) ga g (va_up v2 (m_n nx) g) := z_wk_save hw_65 (show z_ok (upd g 10 (77 : Int32)) from z_ok_thr hw.1)
      obtain ⟨n5, e_n5⟩ : ∃ z, z = (nI ((m_n nx + 1) % 6)) := ⟨_, rfl⟩
      obtain ⟨c5, e_c5⟩ : ∃ z, z = (nI (if m_n c4 < 6 then m_n c4 + 1 else 6)) := ⟨_, rfl⟩
      obtain ⟨v5, e_v5⟩ : ∃ z, z = (va_up v2 (m_n nx) g) := ⟨_, rfl⟩
      have hP : va_P E.1 vwCl ([(z_W E xa na ma mb ad tx ln n5 c5 f0 1 (upd g 10 (77 : Int32)) ga g v5).flatten] : List va_W).flatten H := by rw [e_n5, e_c5, e_v5]; exact hP
      have hD : va_D A ([(z_W E xa na ma mb ad tx ln n5 c5 f0 1 (upd g 10 (77 : Int32)) ga g v5).flatten] : List va_W).flatten := by rw [e_n5, e_c5, e_v5]; exact hD
      have hw_67 : z_wk ln n5 c5 f0 1 (upd g 10 (77 : Int32)) ga g v5 := by rw [e_n5, e_c5, e_v5]; exact hw_66
      refine lv_bipush (v := 10) hx hb dL_isAhead_220 (by decide) ?_
      refine lv_icmp_lt (tgt := 274) hx hb dL_isAhead_222 (by decide) (fun h9 => absurd h9 (h_10 hg)) (fun _ => ?_)
      refine lv_aload_n hx hb dL_isAhead_225 rfl (lv_at hl 5 rfl) ?_
      refine lv_iconst (v := 3) hx hb dL_isAhead_226 (by decide) ?_
      refine lv_iload hx hb dL_isAhead_227 (lv_at hl 2 rfl) ?_
      refine lv_bipush (v := 60) hx hb dL_isAhead_229 (by decide) ?_
      refine lv_iadd hx hb dL_isAhead_231 ?_
      refine lv_sipush (v := 5000) hx hb dL_isAhead_232 (by decide) ?_
      refine lv_sipush (v := 11000) hx hb dL_isAhead_235 (by decide) ?_
      refine z_rdv (va_runS (As := [.int ((g 0) + 60), .int 5000, .int 11000]) (rest := [.int 3, .ref (xa 0)]) ⟨hx, hb, hml, hown, hts⟩ (c_L_within l E ((g 0) + 60) 5000 11000) (va_cwS 3 hts gL_isAhead_L_within rfl rfl rfl (by decide +kernel) ⟨Nat.le_of_ble_eq_true rfl, Nat.le_of_ble_eq_true rfl⟩) ⟨zPr.blind, z_prer hK zP_nil⟩ rfl rfl hl.1 rfl (lv_room (Nat.le_of_ble_eq_true rfl)) dL_isAhead_238 ⟨Nat.le_of_ble_eq_true rfl, Nat.le_of_ble_eq_true rfl⟩) ?_
      refine W.eq (g2 := F0 Mi 241 ls [.int (a_wi ((g 0) + 60) 5000 11000), .int 3, .ref (xa 0)]) rfl ?_
      have ph_241 : (1 ≤ (3 : Int32) ∧ (3 : Int32) ≤ 120) ∧ (5000 ≤ (a_wi ((g 0) + 60) 5000 11000) ∧ (a_wi ((g 0) + 60) 5000 11000) ≤ 11000) := ⟨⟨by decide, by decide⟩, a_wi_r (by decide)⟩
      have hPc : va_P E.1 vwCl ([(z_W E xa na ma mb ad tx ln n5 c5 f0 1 (upd g 10 (77 : Int32)) ga g v5).flatten] : List va_W).flatten H := zf_sub hP [0] rfl
      have hDc : va_D A ([(z_W E xa na ma mb ad tx ln n5 c5 f0 1 (upd g 10 (77 : Int32)) ga g v5).flatten] : List va_W).flatten := zf_subD hD [0] (by decide) rfl
      refine z_xmut (Sc := [(z_W E xa na ma mb ad tx ln n5 c5 f0 1 (upd g 10 (77 : Int32)) ga g v5).flatten]) (Sr := []) (W1 := [(z_W E xa na ma mb ad tx ln (nI ((m_n n5 + 1) % 6)) (nI (if m_n c5 < 6 then m_n c5 + 1 else 6)) f0 1 (m_tripC (upd g 10 (77 : Int32)) (3 : Int32) (a_wi ((g 0) + 60) 5000 11000) (m_n (3 : Int32))) ga g (va_up v5 (m_n n5) (upd g 10 (77 : Int32)))).flatten]) (vx_runV (As := [.int 3, .int (a_wi ((g 0) + 60) 5000 11000)]) (rest := []) ⟨hx, hb, hml, hown, hts⟩ (c_X9_travel l E sa hl0 xa na ma mb ad tx ln n5 c5 f0 1 (upd g 10 (77 : Int32)) ga g v5 hw_67 3 (a_wi ((g 0) + 60) 5000 11000) H.size) (cwV 2 hts gL_isAhead_X9_travel rfl rfl rfl (by decide +kernel) ⟨Nat.le_of_ble_eq_true rfl, Nat.le_of_ble_eq_true rfl⟩) ⟨zPE.blind, va_recv hK.1 hPc (ci := 8) (q0 := 0) rfl rfl, z_preE hK hT hZ hS (zf_free hD hS hA [0] rfl) hPc hDc⟩ rfl rfl hl.1 rfl (lv_room (Nat.le_of_ble_eq_true rfl)) dL_isAhead_241 ⟨Nat.le_of_ble_eq_true rfl, Nat.le_of_ble_eq_true rfl⟩) hP hD hS hA [0] [] rfl rfl (by decide) (by decide) (fun Ex ce q9 H locs hps hP hD hS hce hcv hcl => ?_) (fun H locs _ hP hD hS => ?_)
      · exact (absurd ph_241 hps.2)
      have hP : va_P E.1 vwCl ([(z_W E xa na ma mb ad tx ln (nI ((m_n n5 + 1) % 6)) (nI (if m_n c5 < 6 then m_n c5 + 1 else 6)) f0 1 (m_tripC (upd g 10 (77 : Int32)) (3 : Int32) (a_wi ((g 0) + 60) 5000 11000) (m_n (3 : Int32))) ga g (va_up v5 (m_n n5) (upd g 10 (77 : Int32)))).flatten] : List va_W).flatten H := hP
      have hD : va_D A ([(z_W E xa na ma mb ad tx ln (nI ((m_n n5 + 1) % 6)) (nI (if m_n c5 < 6 then m_n c5 + 1 else 6)) f0 1 (m_tripC (upd g 10 (77 : Int32)) (3 : Int32) (a_wi ((g 0) + 60) 5000 11000) (m_n (3 : Int32))) ga g (va_up v5 (m_n n5) (upd g 10 (77 : Int32)))).flatten] : List va_W).flatten := hD
      refine W.widen (k := 11) (n := 66) (by decide) (by decide) ?_
      refine W.eq (g2 := F0 Mi 244 ls [.int (m_std ((m_tripC (upd g 10 (77 : Int32)) (3 : Int32) (a_wi ((g 0) + 60) 5000 11000) (m_n (3 : Int32))) 0) - m_std ((m_tripC (upd g 10 (77 : Int32)) (3 : Int32) (a_wi ((g 0) + 60) 5000 11000) (m_n (3 : Int32))) 1))]) rfl ?_
      have hw_68 : z_wk ln (nI ((m_n n5 + 1) % 6)) (nI (if m_n c5 < 6 then m_n c5 + 1 else 6)) f0 1 (m_tripC (upd g 10 (77 : Int32)) (3 : Int32) (a_wi ((g 0) + 60) 5000 11000) (m_n (3 : Int32))) ga g (va_up v5 (m_n n5) (upd g 10 (77 : Int32))) := z_wk_save hw_67 (show z_ok (m_tripC (upd g 10 (77 : Int32)) (3 : Int32) (a_wi ((g 0) + 60) 5000 11000) (m_n (3 : Int32))) from z_ok_trip (z_ok_thr hw.1) _)
      obtain ⟨n6, e_n6⟩ : ∃ z, z = (nI ((m_n n5 + 1) % 6)) := ⟨_, rfl⟩
      obtain ⟨c6, e_c6⟩ : ∃ z, z = (nI (if m_n c5 < 6 then m_n c5 + 1 else 6)) := ⟨_, rfl⟩
      obtain ⟨v6, e_v6⟩ : ∃ z, z = (va_up v5 (m_n n5) (upd g 10 (77 : Int32))) := ⟨_, rfl⟩
      have hP : va_P E.1 vwCl ([(z_W E xa na ma mb ad tx ln n6 c6 f0 1 (m_tripC (upd g 10 (77 : Int32)) (3 : Int32) (a_wi ((g 0) + 60) 5000 11000) (m_n (3 : Int32))) ga g v6).flatten] : List va_W).flatten H := by rw [e_n6, e_c6, e_v6]; exact hP
      have hD : va_D A ([(z_W E xa na ma mb ad tx ln n6 c6 f0 1 (m_tripC (upd g 10 (77 : Int32)) (3 : Int32) (a_wi ((g 0) + 60) 5000 11000) (m_n (3 : Int32))) ga g v6).flatten] : List va_W).flatten := by rw [e_n6, e_c6, e_v6]; exact hD
      have hw_69 : z_wk ln n6 c6 f0 1 (m_tripC (upd g 10 (77 : Int32)) (3 : Int32) (a_wi ((g 0) + 60) 5000 11000) (m_n (3 : Int32))) ga g v6 := by rw [e_n6, e_c6, e_v6]; exact hw_68
      refine lv_aload_n hx hb dL_isAhead_244 rfl (lv_at hl 5 rfl) ?_
      have hPc : va_P E.1 vwCl ([(z_W E xa na ma mb ad tx ln n6 c6 f0 1 (m_tripC (upd g 10 (77 : Int32)) (3 : Int32) (a_wi ((g 0) + 60) 5000 11000) (m_n (3 : Int32))) ga g v6).flatten] : List va_W).flatten H := zf_sub hP [0] rfl
      refine z_rdv (va_runV (As := []) (rest := [.int (m_std ((m_tripC (upd g 10 (77 : Int32)) (3 : Int32) (a_wi ((g 0) + 60) 5000 11000) (m_n (3 : Int32))) 0) - m_std ((m_tripC (upd g 10 (77 : Int32)) (3 : Int32) (a_wi ((g 0) + 60) 5000 11000) (m_n (3 : Int32))) 1))]) ⟨hx, hb, hml, hown, hts⟩ (c_X9_altitude l E xa na ma mb ad tx ln n6 c6 f0 1 (m_tripC (upd g 10 (77 : Int32)) (3 : Int32) (a_wi ((g 0) + 60) 5000 11000) (m_n (3 : Int32))) ga g v6 hw_69) (cwV 0 hts gL_isAhead_X9_altitude rfl rfl rfl (by decide +kernel) ⟨Nat.le_of_ble_eq_true rfl, Nat.le_of_ble_eq_true rfl⟩) ⟨zPr.blind, va_recv hK.1 hPc (ci := 8) (q0 := 0) rfl rfl, z_prer hK hPc⟩ rfl rfl hl.1 rfl (lv_room (Nat.le_of_ble_eq_true rfl)) dL_isAhead_245 ⟨Nat.le_of_ble_eq_true rfl, Nat.le_of_ble_eq_true rfl⟩) ?_
      refine W.eq (g2 := F0 Mi 248 ls [.int (m_std ((m_tripC (upd g 10 (77 : Int32)) (3 : Int32) (a_wi ((g 0) + 60) 5000 11000) (m_n (3 : Int32))) 0) - m_std ((m_tripC (upd g 10 (77 : Int32)) (3 : Int32) (a_wi ((g 0) + 60) 5000 11000) (m_n (3 : Int32))) 1)), .int (m_std ((m_tripC (upd g 10 (77 : Int32)) (3 : Int32) (a_wi ((g 0) + 60) 5000 11000) (m_n (3 : Int32))) 0) - m_std ((m_tripC (upd g 10 (77 : Int32)) (3 : Int32) (a_wi ((g 0) + 60) 5000 11000) (m_n (3 : Int32))) 1))]) rfl ?_
      refine lv_icmp_ne (tgt := 274) hx hb dL_isAhead_248 (by decide) (fun h9 => absurd (rfl) h9) (fun _ => ?_)
      refine lv_aload_n hx hb dL_isAhead_251 rfl (lv_at hl 5 rfl) ?_
      refine lv_iconst (v := 1) hx hb dL_isAhead_252 (by decide) ?_
      have ph_253 : ((0 : Int32) ≤ 1 ∧ (1 : Int32) ≤ 1) ∧ ¬ (1 : Int32) = 0 := ⟨⟨by decide, by decide⟩, by decide⟩
      have hPc : va_P E.1 vwCl ([(z_W E xa na ma mb ad tx ln n6 c6 f0 1 (m_tripC (upd g 10 (77 : Int32)) (3 : Int32) (a_wi ((g 0) + 60) 5000 11000) (m_n (3 : Int32))) ga g v6).flatten] : List va_W).flatten H := zf_sub hP [0] rfl
      have hDc : va_D A ([(z_W E xa na ma mb ad tx ln n6 c6 f0 1 (m_tripC (upd g 10 (77 : Int32)) (3 : Int32) (a_wi ((g 0) + 60) 5000 11000) (m_n (3 : Int32))) ga g v6).flatten] : List va_W).flatten := zf_subD hD [0] (by decide) rfl
      refine z_xmut (Sc := [(z_W E xa na ma mb ad tx ln n6 c6 f0 1 (m_tripC (upd g 10 (77 : Int32)) (3 : Int32) (a_wi ((g 0) + 60) 5000 11000) (m_n (3 : Int32))) ga g v6).flatten]) (Sr := []) (W1 := [(z_W E xa na ma mb ad tx ln (nI ((m_n n6 + 1) % 6)) (nI (if m_n c6 < 6 then m_n c6 + 1 else 6)) f0 1 g ga g (va_up v6 (m_n n6) (m_tripC (upd g 10 (77 : Int32)) (3 : Int32) (a_wi ((g 0) + 60) 5000 11000) (m_n (3 : Int32))))).flatten]) (vx_runV (As := [.int 1]) (rest := []) ⟨hx, hb, hml, hown, hts⟩ (c_X9_recall1 l E sa hl0 xa na ma mb ad tx ln n6 c6 f0 1 (m_tripC (upd g 10 (77 : Int32)) (3 : Int32) (a_wi ((g 0) + 60) 5000 11000) (m_n (3 : Int32))) ga g v6 hw_69 H.size) (cwV 1 hts gL_isAhead_X9_recall rfl rfl rfl (by decide +kernel) ⟨Nat.le_of_ble_eq_true rfl, Nat.le_of_ble_eq_true rfl⟩) ⟨zPE.blind, va_recv hK.1 hPc (ci := 8) (q0 := 0) rfl rfl, z_preE hK hT hZ hS (zf_free hD hS hA [0] rfl) hPc hDc⟩ rfl rfl hl.1 rfl (lv_room (Nat.le_of_ble_eq_true rfl)) dL_isAhead_253 ⟨Nat.le_of_ble_eq_true rfl, Nat.le_of_ble_eq_true rfl⟩) hP hD hS hA [0] [] rfl rfl (by decide) (by decide) (fun Ex ce q9 H locs hps hP hD hS hce hcv hcl => ?_) (fun H locs _ hP hD hS => ?_)
      · exact (hps.elim (fun z => absurd ph_253.1 z.2) (fun z => absurd z.2.2 ph_253.2))
      have hP : va_P E.1 vwCl ([(z_W E xa na ma mb ad tx ln (nI ((m_n n6 + 1) % 6)) (nI (if m_n c6 < 6 then m_n c6 + 1 else 6)) f0 1 g ga g (va_up v6 (m_n n6) (m_tripC (upd g 10 (77 : Int32)) (3 : Int32) (a_wi ((g 0) + 60) 5000 11000) (m_n (3 : Int32))))).flatten] : List va_W).flatten H := hP
      have hD : va_D A ([(z_W E xa na ma mb ad tx ln (nI ((m_n n6 + 1) % 6)) (nI (if m_n c6 < 6 then m_n c6 + 1 else 6)) f0 1 g ga g (va_up v6 (m_n n6) (m_tripC (upd g 10 (77 : Int32)) (3 : Int32) (a_wi ((g 0) + 60) 5000 11000) (m_n (3 : Int32))))).flatten] : List va_W).flatten := hD
      refine W.widen (k := 13) (n := 78) (by decide) (by decide) ?_
      refine W.eq (g2 := F0 Mi 256 ls [.int (m_std (g 0) - m_std (g 1))]) rfl ?_
      have hw_70 : z_wk ln (nI ((m_n n6 + 1) % 6)) (nI (if m_n c6 < 6 then m_n c6 + 1 else 6)) f0 1 g ga g (va_up v6 (m_n n6) (m_tripC (upd g 10 (77 : Int32)) (3 : Int32) (a_wi ((g 0) + 60) 5000 11000) (m_n (3 : Int32)))) := z_wk_save hw_69 (show z_ok g from hw.1)
      obtain ⟨n7, e_n7⟩ : ∃ z, z = (nI ((m_n n6 + 1) % 6)) := ⟨_, rfl⟩
      obtain ⟨c7, e_c7⟩ : ∃ z, z = (nI (if m_n c6 < 6 then m_n c6 + 1 else 6)) := ⟨_, rfl⟩
      obtain ⟨v7, e_v7⟩ : ∃ z, z = (va_up v6 (m_n n6) (m_tripC (upd g 10 (77 : Int32)) (3 : Int32) (a_wi ((g 0) + 60) 5000 11000) (m_n (3 : Int32)))) := ⟨_, rfl⟩
      have hP : va_P E.1 vwCl ([(z_W E xa na ma mb ad tx ln n7 c7 f0 1 g ga g v7).flatten] : List va_W).flatten H := by rw [e_n7, e_c7, e_v7]; exact hP
      have hD : va_D A ([(z_W E xa na ma mb ad tx ln n7 c7 f0 1 g ga g v7).flatten] : List va_W).flatten := by rw [e_n7, e_c7, e_v7]; exact hD
      have hw_71 : z_wk ln n7 c7 f0 1 g ga g v7 := by rw [e_n7, e_c7, e_v7]; exact hw_70
      refine lv_iload hx hb dL_isAhead_256 (lv_at hl 0 rfl) ?_
      refine lv_icmp_ne (tgt := 274) hx hb dL_isAhead_258 (by decide) (fun h9 => absurd (rfl) h9) (fun _ => ?_)
      refine lv_aload_n hx hb dL_isAhead_261 rfl (lv_at hl 5 rfl) ?_
      have hPc : va_P E.1 vwCl ([(z_W E xa na ma mb ad tx ln n7 c7 f0 1 g ga g v7).flatten] : List va_W).flatten H := zf_sub hP [0] rfl
      refine z_rdv (va_runV (As := []) (rest := []) ⟨hx, hb, hml, hown, hts⟩ (c_X9_digest l E xa na ma mb ad tx ln n7 c7 f0 1 g ga g v7 hw_71) (cwV 0 hts gL_isAhead_X9_digest rfl rfl rfl (by decide +kernel) ⟨Nat.le_of_ble_eq_true rfl, Nat.le_of_ble_eq_true rfl⟩) ⟨zPr.blind, va_recv hK.1 hPc (ci := 8) (q0 := 0) rfl rfl, z_prer hK hPc⟩ rfl rfl hl.1 rfl (lv_room (Nat.le_of_ble_eq_true rfl)) dL_isAhead_262 ⟨Nat.le_of_ble_eq_true rfl, Nat.le_of_ble_eq_true rfl⟩) ?_
      refine W.eq (g2 := F0 Mi 265 ls [.long (m_dg g)]) rfl ?_
      refine lv_lload_n hx hb dL_isAhead_265 rfl (lv_at hl 4 rfl) ?_
      refine W.lcmp hx hb dL_isAhead_266 ?_
      refine lv_if_ne (tgt := 274) hx hb dL_isAhead_267 (by decide) (fun h9 => absurd (z_lcs _) h9) (fun _ => ?_)
      refine lv_iconst (v := 1) hx hb dL_isAhead_270 (by decide) ?_
      refine lv_goto (tgt := 275) hx hb dL_isAhead_271 (by decide) ?_
      refine lv_istore (lv' := [(5, .int 1), (7, .int (m_std (g 0) - m_std (g 1))), (6, .int (g 0)), (4, .int (nI i)), (2, .long (m_dg g)), (0, .ref (xa 0)), (1, .int x)]) hx hb dL_isAhead_275 hl (by decide) rfl (fun ls hl => ?_)
      refine lv_iload hx hb dL_isAhead_277 (lv_at hl 0 rfl) ?_
      refine lv_if_eq (tgt := 316) hx hb dL_isAhead_279 (by decide) (fun h9 => absurd h9 ((by decide))) (fun _ => ?_)
      refine lv_aload_n hx hb dL_isAhead_282 rfl (lv_at hl 5 rfl) ?_
      have L5 := r_lo1 (r_lo0 hw_64.2.2.1) (by decide) e_c5
      have L6 := r_lo1 L5 (by decide) e_c6
      have L7 := r_lo1 L6 (by decide) e_c7
      have ph_283 : ¬ c7 = 0 := r_ne L7
      have hPc : va_P E.1 vwCl ([(z_W E xa na ma mb ad tx ln n7 c7 f0 1 g ga g v7).flatten] : List va_W).flatten H := zf_sub hP [0] rfl
      have hDc : va_D A ([(z_W E xa na ma mb ad tx ln n7 c7 f0 1 g ga g v7).flatten] : List va_W).flatten := zf_subD hD [0] (by decide) rfl
      refine z_xmut (Sc := [(z_W E xa na ma mb ad tx ln n7 c7 f0 1 g ga g v7).flatten]) (Sr := []) (W1 := [(z_W E xa na ma mb ad tx ln n6 (nI (m_n c7 - 1)) f0 1 (m_tripC (upd g 10 (77 : Int32)) (3 : Int32) (a_wi ((g 0) + 60) 5000 11000) (m_n (3 : Int32))) ga g v7).flatten]) (vx_runV (As := []) (rest := []) ⟨hx, hb, hml, hown, hts⟩ (c_X9_undoG l E sa hl0 xa na ma mb ad tx ln n7 c7 f0 1 g ga g v7 hw_71 (r_e1 hw_69.2.1 e_n7) (r_e2 hw_69.2.1 e_n7 e_v7) H.size) (cwV 0 hts gL_isAhead_X9_undo rfl rfl rfl (by decide +kernel) ⟨Nat.le_of_ble_eq_true rfl, Nat.le_of_ble_eq_true rfl⟩) ⟨zPE.blind, va_recv hK.1 hPc (ci := 8) (q0 := 0) rfl rfl, z_preE hK hT hZ hS (zf_free hD hS hA [0] rfl) hPc hDc⟩ rfl rfl hl.1 rfl (lv_room (Nat.le_of_ble_eq_true rfl)) dL_isAhead_283 ⟨Nat.le_of_ble_eq_true rfl, Nat.le_of_ble_eq_true rfl⟩) hP hD hS hA [0] [] rfl rfl (by decide) (by decide) (fun Ex ce q9 H locs hps hP hD hS hce hcv hcl => ?_) (fun H locs _ hP hD hS => ?_)
      · exact (absurd hps.2 ph_283)
      have hP : va_P E.1 vwCl ([(z_W E xa na ma mb ad tx ln n6 (nI (m_n c7 - 1)) f0 1 (m_tripC (upd g 10 (77 : Int32)) (3 : Int32) (a_wi ((g 0) + 60) 5000 11000) (m_n (3 : Int32))) ga g v7).flatten] : List va_W).flatten H := hP
      have hD : va_D A ([(z_W E xa na ma mb ad tx ln n6 (nI (m_n c7 - 1)) f0 1 (m_tripC (upd g 10 (77 : Int32)) (3 : Int32) (a_wi ((g 0) + 60) 5000 11000) (m_n (3 : Int32))) ga g v7).flatten] : List va_W).flatten := hD
      refine W.widen (k := 14) (n := 84) (by decide) (by decide) ?_
      refine W.eq (g2 := F0 Mi 286 ls [.int (nI (m_n c7 - 1))]) rfl ?_
      have hw_72 : z_wk ln n6 (nI (m_n c7 - 1)) f0 1 (m_tripC (upd g 10 (77 : Int32)) (3 : Int32) (a_wi ((g 0) + 60) 5000 11000) (m_n (3 : Int32))) ga g v7 := r_wku hw_71 (r_e1 hw_69.2.1 e_n7) (r_e2 hw_69.2.1 e_n7 e_v7) rfl (z_ok_trip (z_ok_thr hw.1) _)
      obtain ⟨c8, e_c8⟩ : ∃ z, z = (nI (m_n c7 - 1)) := ⟨_, rfl⟩
      have hP : va_P E.1 vwCl ([(z_W E xa na ma mb ad tx ln n6 c8 f0 1 (m_tripC (upd g 10 (77 : Int32)) (3 : Int32) (a_wi ((g 0) + 60) 5000 11000) (m_n (3 : Int32))) ga g v7).flatten] : List va_W).flatten H := by rw [e_c8]; exact hP
      have hD : va_D A ([(z_W E xa na ma mb ad tx ln n6 c8 f0 1 (m_tripC (upd g 10 (77 : Int32)) (3 : Int32) (a_wi ((g 0) + 60) 5000 11000) (m_n (3 : Int32))) ga g v7).flatten] : List va_W).flatten := by rw [e_c8]; exact hD
      have hw_73 : z_wk ln n6 c8 f0 1 (m_tripC (upd g 10 (77 : Int32)) (3 : Int32) (a_wi ((g 0) + 60) 5000 11000) (m_n (3 : Int32))) ga g v7 := by rw [e_c8]; exact hw_72
      refine lv_if_lt (tgt := 316) hx hb dL_isAhead_286 (by decide) (fun h9 => absurd h9 (r_nn c7)) (fun _ => ?_)
      refine lv_aload_n hx hb dL_isAhead_289 rfl (lv_at hl 5 rfl) ?_
      have L8 := r_lo2 L7 e_c8
      have eu2 : v7 ((m_n n6 + 5) % 6) = (upd g 10 (77 : Int32)) := by rw [r_u1 hw_67.2.1 e_n6, e_v7, r_vn _ _ (r_ne1 hw_67.2.1 e_n6), e_v6, r_vs]
      have ph_290 : ¬ c8 = 0 := r_ne L8
      have hPc : va_P E.1 vwCl ([(z_W E xa na ma mb ad tx ln n6 c8 f0 1 (m_tripC (upd g 10 (77 : Int32)) (3 : Int32) (a_wi ((g 0) + 60) 5000 11000) (m_n (3 : Int32))) ga g v7).flatten] : List va_W).flatten H := zf_sub hP [0] rfl
      have hDc : va_D A ([(z_W E xa na ma mb ad tx ln n6 c8 f0 1 (m_tripC (upd g 10 (77 : Int32)) (3 : Int32) (a_wi ((g 0) + 60) 5000 11000) (m_n (3 : Int32))) ga g v7).flatten] : List va_W).flatten := zf_subD hD [0] (by decide) rfl
      refine z_xmut (Sc := [(z_W E xa na ma mb ad tx ln n6 c8 f0 1 (m_tripC (upd g 10 (77 : Int32)) (3 : Int32) (a_wi ((g 0) + 60) 5000 11000) (m_n (3 : Int32))) ga g v7).flatten]) (Sr := []) (W1 := [(z_W E xa na ma mb ad tx ln n5 (nI (m_n c8 - 1)) f0 1 (upd g 10 (77 : Int32)) ga g v7).flatten]) (vx_runV (As := []) (rest := []) ⟨hx, hb, hml, hown, hts⟩ (c_X9_undoG l E sa hl0 xa na ma mb ad tx ln n6 c8 f0 1 (m_tripC (upd g 10 (77 : Int32)) (3 : Int32) (a_wi ((g 0) + 60) 5000 11000) (m_n (3 : Int32))) ga g v7 hw_73 (r_e1 hw_67.2.1 e_n6) eu2 H.size) (cwV 0 hts gL_isAhead_X9_undo rfl rfl rfl (by decide +kernel) ⟨Nat.le_of_ble_eq_true rfl, Nat.le_of_ble_eq_true rfl⟩) ⟨zPE.blind, va_recv hK.1 hPc (ci := 8) (q0 := 0) rfl rfl, z_preE hK hT hZ hS (zf_free hD hS hA [0] rfl) hPc hDc⟩ rfl rfl hl.1 rfl (lv_room (Nat.le_of_ble_eq_true rfl)) dL_isAhead_290 ⟨Nat.le_of_ble_eq_true rfl, Nat.le_of_ble_eq_true rfl⟩) hP hD hS hA [0] [] rfl rfl (by decide) (by decide) (fun Ex ce q9 H locs hps hP hD hS hce hcv hcl => ?_) (fun H locs _ hP hD hS => ?_)
      · exact (absurd hps.2 ph_290)
      have hP : va_P E.1 vwCl ([(z_W E xa na ma mb ad tx ln n5 (nI (m_n c8 - 1)) f0 1 (upd g 10 (77 : Int32)) ga g v7).flatten] : List va_W).flatten H := hP
      have hD : va_D A ([(z_W E xa na ma mb ad tx ln n5 (nI (m_n c8 - 1)) f0 1 (upd g 10 (77 : Int32)) ga g v7).flatten] : List va_W).flatten := hD
      refine W.widen (k := 15) (n := 90) (by decide) (by decide) ?_
      refine W.eq (g2 := F0 Mi 293 ls [.int (nI (m_n c8 - 1))]) rfl ?_
      have hw_74 : z_wk ln n5 (nI (m_n c8 - 1)) f0 1 (upd g 10 (77 : Int32)) ga g v7 := r_wku hw_73 (r_e1 hw_67.2.1 e_n6) eu2 rfl (z_ok_thr hw.1)
      obtain ⟨c9, e_c9⟩ : ∃ z, z = (nI (m_n c8 - 1)) := ⟨_, rfl⟩
      have hP : va_P E.1 vwCl ([(z_W E xa na ma mb ad tx ln n5 c9 f0 1 (upd g 10 (77 : Int32)) ga g v7).flatten] : List va_W).flatten H := by rw [e_c9]; exact hP
      have hD : va_D A ([(z_W E xa na ma mb ad tx ln n5 c9 f0 1 (upd g 10 (77 : Int32)) ga g v7).flatten] : List va_W).flatten := by rw [e_c9]; exact hD
      have hw_75 : z_wk ln n5 c9 f0 1 (upd g 10 (77 : Int32)) ga g v7 := by rw [e_c9]; exact hw_74
      refine lv_if_lt (tgt := 316) hx hb dL_isAhead_293 (by decide) (fun h9 => absurd h9 (r_nn c8)) (fun _ => ?_)
      refine lv_aload_n hx hb dL_isAhead_296 rfl (lv_at hl 5 rfl) ?_
      have L9 := r_lo2 L8 e_c9
      have eu3 : v7 ((m_n n5 + 5) % 6) = g := by rw [r_u1 hw.2.1 e_n5, e_v7, r_vn _ _ (r_ne2 hw.2.1 e_n5 e_n6), e_v6, r_vn _ _ (r_ne1 hw.2.1 e_n5), e_v5, r_vs]
      have ph_297 : ¬ c9 = 0 := r_ne L9
      have hPc : va_P E.1 vwCl ([(z_W E xa na ma mb ad tx ln n5 c9 f0 1 (upd g 10 (77 : Int32)) ga g v7).flatten] : List va_W).flatten H := zf_sub hP [0] rfl
      have hDc : va_D A ([(z_W E xa na ma mb ad tx ln n5 c9 f0 1 (upd g 10 (77 : Int32)) ga g v7).flatten] : List va_W).flatten := zf_subD hD [0] (by decide) rfl
      refine z_xmut (Sc := [(z_W E xa na ma mb ad tx ln n5 c9 f0 1 (upd g 10 (77 : Int32)) ga g v7).flatten]) (Sr := []) (W1 := [(z_W E xa na ma mb ad tx ln nx (nI (m_n c9 - 1)) f0 1 g ga g v7).flatten]) (vx_runV (As := []) (rest := []) ⟨hx, hb, hml, hown, hts⟩ (c_X9_undoG l E sa hl0 xa na ma mb ad tx ln n5 c9 f0 1 (upd g 10 (77 : Int32)) ga g v7 hw_75 (r_e1 hw.2.1 e_n5) eu3 H.size) (cwV 0 hts gL_isAhead_X9_undo rfl rfl rfl (by decide +kernel) ⟨Nat.le_of_ble_eq_true rfl, Nat.le_of_ble_eq_true rfl⟩) ⟨zPE.blind, va_recv hK.1 hPc (ci := 8) (q0 := 0) rfl rfl, z_preE hK hT hZ hS (zf_free hD hS hA [0] rfl) hPc hDc⟩ rfl rfl hl.1 rfl (lv_room (Nat.le_of_ble_eq_true rfl)) dL_isAhead_297 ⟨Nat.le_of_ble_eq_true rfl, Nat.le_of_ble_eq_true rfl⟩) hP hD hS hA [0] [] rfl rfl (by decide) (by decide) (fun Ex ce q9 H locs hps hP hD hS hce hcv hcl => ?_) (fun H locs _ hP hD hS => ?_)
      · exact (absurd hps.2 ph_297)
      have hP : va_P E.1 vwCl ([(z_W E xa na ma mb ad tx ln nx (nI (m_n c9 - 1)) f0 1 g ga g v7).flatten] : List va_W).flatten H := hP
      have hD : va_D A ([(z_W E xa na ma mb ad tx ln nx (nI (m_n c9 - 1)) f0 1 g ga g v7).flatten] : List va_W).flatten := hD
      refine W.widen (k := 16) (n := 96) (by decide) (by decide) ?_
      refine W.eq (g2 := F0 Mi 300 ls [.int (nI (m_n c9 - 1))]) rfl ?_
      have hw_76 : z_wk ln nx (nI (m_n c9 - 1)) f0 1 g ga g v7 := r_wku hw_75 (r_e1 hw.2.1 e_n5) eu3 rfl hw.1
      obtain ⟨c10, e_c10⟩ : ∃ z, z = (nI (m_n c9 - 1)) := ⟨_, rfl⟩
      have hP : va_P E.1 vwCl ([(z_W E xa na ma mb ad tx ln nx c10 f0 1 g ga g v7).flatten] : List va_W).flatten H := by rw [e_c10]; exact hP
      have hD : va_D A ([(z_W E xa na ma mb ad tx ln nx c10 f0 1 g ga g v7).flatten] : List va_W).flatten := by rw [e_c10]; exact hD
      have hw_77 : z_wk ln nx c10 f0 1 g ga g v7 := by rw [e_c10]; exact hw_76
      refine lv_if_lt (tgt := 316) hx hb dL_isAhead_300 (by decide) (fun h9 => absurd h9 (r_nn c9)) (fun _ => ?_)
      refine lv_aload_n hx hb dL_isAhead_303 rfl (lv_at hl 5 rfl) ?_
      have hPc : va_P E.1 vwCl ([(z_W E xa na ma mb ad tx ln nx c10 f0 1 g ga g v7).flatten] : List va_W).flatten H := zf_sub hP [0] rfl
      refine z_rdv (va_runV (As := []) (rest := []) ⟨hx, hb, hml, hown, hts⟩ (c_X9_digest l E xa na ma mb ad tx ln nx c10 f0 1 g ga g v7 hw_77) (cwV 0 hts gL_isAhead_X9_digest rfl rfl rfl (by decide +kernel) ⟨Nat.le_of_ble_eq_true rfl, Nat.le_of_ble_eq_true rfl⟩) ⟨zPr.blind, va_recv hK.1 hPc (ci := 8) (q0 := 0) rfl rfl, z_prer hK hPc⟩ rfl rfl hl.1 rfl (lv_room (Nat.le_of_ble_eq_true rfl)) dL_isAhead_304 ⟨Nat.le_of_ble_eq_true rfl, Nat.le_of_ble_eq_true rfl⟩) ?_
      refine W.eq (g2 := F0 Mi 307 ls [.long (m_dg g)]) rfl ?_
      refine lv_lload_n hx hb dL_isAhead_307 rfl (lv_at hl 4 rfl) ?_
      refine W.lcmp hx hb dL_isAhead_308 ?_
      refine lv_if_ne (tgt := 316) hx hb dL_isAhead_309 (by decide) (fun h9 => absurd (z_lcs _) h9) (fun _ => ?_)
      refine lv_iconst (v := 1) hx hb dL_isAhead_312 (by decide) ?_
      refine lv_goto (tgt := 317) hx hb dL_isAhead_313 (by decide) ?_
      refine vx_ret ?_
      exact W.zret (v := 1) hx hb hr rfl (z_endy (c10, v7) hw_77 hP hD hS rfl) hS.2.2 dL_isAhead_317 hlocks
