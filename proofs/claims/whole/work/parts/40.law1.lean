set_option maxHeartbeats 4000000 in
set_option maxRecDepth 100000 in
theorem c_L_travel_y (l : Launch) (E : zE) (sa : Nat → Nat) (hl0 : l.stackTraces = false) (ou : Nat) (f : Nat → Int64) (xa na ma mb : Nat → Nat) (ad : Nat → Nat → Nat) (tx : Nat → Int32) (ln nx ct f0 f1 : Int32) (g ga gb : Nat → Int32) (v : Nat → Nat → Int32) (hw : z_wk ln nx ct f0 f1 g ga gb v) (n p : Int32) (hpq : (1 ≤ n ∧ n ≤ 120) ∧ (5000 ≤ p ∧ p ≤ 11000)) : zMT l yL_travel wsL_travel ({ frames := 8, cells := 2, slots := 12, locals := 152 }) E sa [.ref (xa 0), .int n, .int p, .ref ou] ([(z_W E xa na ma mb ad tx ln nx ct f0 f1 g ga gb v).flatten, [(ou, .inl (E.2 3, 1, .inr (.inl f)))]] : List va_W).flatten (some (.int 0)) ([(z_W E xa na ma mb ad tx ln (nI ((m_n nx + 1) % 6)) (nI (if m_n ct < 6 then m_n ct + 1 else 6)) f0 f1 (m_tripC g n p (m_n n)) ga gb (va_up v (m_n nx) g)).flatten, [(ou, .inl (E.2 3, 1, .inr (.inl (vp_updL f 0 ((m_std ((m_tripC g n p (m_n n)) 0) - m_std ((m_tripC g n p (m_n n)) 1))).toInt64))))]] : List va_W).flatten 2 12 := by
  refine z_startw (cc := cL_travel) (maxL := 5) (ret := (some .int)) (hh := [(0, 10, 13, 13)]) (by decide) rfl (Nat.le_of_ble_eq_true rfl) ?_
  intro Pg En s Mi below meth Cd A hx hb hr hts hown hlocks hml htab hA hT hZ hN H hH hP hK hD hS ls hl
  have hl : lv_has ls 5 [(0, .ref (xa 0)), (1, .int n), (2, .int p), (3, .ref ou)] := hl
  refine lv_aload_n hx hb dL_travel_0 rfl (lv_at hl 3 rfl) ?_
  refine lv_iconst (v := 0) hx hb dL_travel_1 (by decide) ?_
  refine lv_aload_n hx hb dL_travel_2 rfl (lv_at hl 0 rfl) ?_
  refine lv_iload_n hx hb dL_travel_3 rfl (lv_at hl 1 rfl) ?_
  refine lv_iload_n hx hb dL_travel_4 rfl (lv_at hl 2 rfl) ?_
  have hPc : va_P E.1 vwCl ([(z_W E xa na ma mb ad tx ln nx ct f0 f1 g ga gb v).flatten] : List va_W).flatten H := zf_sub hP [0] rfl
  have hDc : va_D A ([(z_W E xa na ma mb ad tx ln nx ct f0 f1 g ga gb v).flatten] : List va_W).flatten := zf_subD hD [0] (by decide) rfl
  refine z_xmut (Sc := [(z_W E xa na ma mb ad tx ln nx ct f0 f1 g ga gb v).flatten]) (Sr := [[(ou, .inl (E.2 3, 1, .inr (.inl f)))]]) (W1 := [(z_W E xa na ma mb ad tx ln (nI ((m_n nx + 1) % 6)) (nI (if m_n ct < 6 then m_n ct + 1 else 6)) f0 f1 (m_tripC g n p (m_n n)) ga gb (va_up v (m_n nx) g)).flatten]) (vx_runV (As := [.int n, .int p]) (rest := [.int 0, .ref ou]) ⟨hx, hb, hml, hown, hts⟩ (c_X9_travel l E sa hl0 xa na ma mb ad tx ln nx ct f0 f1 g ga gb v hw n p H.size) (cwV 2 hts gL_travel_X9_travel rfl rfl rfl (by decide +kernel) ⟨Nat.le_of_ble_eq_true rfl, Nat.le_of_ble_eq_true rfl⟩) ⟨zPE.blind, va_recv hK.1 hPc (ci := 8) (q0 := 0) rfl rfl, z_preE hK hT hZ hS (zf_free hD hS hA [0] rfl) hPc hDc⟩ rfl rfl hl.1 rfl (lv_room (Nat.le_of_ble_eq_true rfl)) dL_travel_5 ⟨Nat.le_of_ble_eq_true rfl, Nat.le_of_ble_eq_true rfl⟩) hP hD hS hA [0] [1] rfl rfl (by decide) (by decide) (fun Ex ce q9 H locs hps hP hD hS hce hcv hcl => ?_) (fun H locs hph hP hD hS => ?_)
  · have hP : va_P E.1 vwCl ([[(ou, .inl (E.2 3, 1, .inr (.inl f)))], (z_W E xa na ma mb ad tx ln nx ct f0 f1 g ga gb v).flatten] : List va_W).flatten H := hP
    have hD : va_D A ([[(ou, .inl (E.2 3, 1, .inr (.inl f)))], (z_W E xa na ma mb ad tx ln nx ct f0 f1 g ga gb v).flatten] : List va_W).flatten := hD
    exact absurd hpq hps.2
  have hP : va_P E.1 vwCl ([[(ou, .inl (E.2 3, 1, .inr (.inl f)))], (z_W E xa na ma mb ad tx ln (nI ((m_n nx + 1) % 6)) (nI (if m_n ct < 6 then m_n ct + 1 else 6)) f0 f1 (m_tripC g n p (m_n n)) ga gb (va_up v (m_n nx) g)).flatten] : List va_W).flatten H := hP
  have hD : va_D A ([[(ou, .inl (E.2 3, 1, .inr (.inl f)))], (z_W E xa na ma mb ad tx ln (nI ((m_n nx + 1) % 6)) (nI (if m_n ct < 6 then m_n ct + 1 else 6)) f0 f1 (m_tripC g n p (m_n n)) ga gb (va_up v (m_n nx) g)).flatten] : List va_W).flatten := hD
  refine W.widen (k := 2) (n := 12) (by decide) (by decide) ?_
  refine W.eq (g2 := F0 Mi 8 ls [.int (m_std ((m_tripC g n p (m_n n)) 0) - m_std ((m_tripC g n p (m_n n)) 1)), .int 0, .ref ou]) rfl ?_
  refine lv_i2l hx hb dL_travel_8 rfl ?_
  refine z_last (k := 0) hx hb hK.1 hP hD hS 0 rfl rfl (by decide) (by decide) dL_travel_9 (fun H locs hP hD hS => ?_)
  have hP : va_P E.1 vwCl ([[(ou, .inl (E.2 3, 1, .inr (.inl (vp_updL f 0 (((m_std ((m_tripC g n p (m_n n)) 0) - m_std ((m_tripC g n p (m_n n)) 1))).toInt64)))))], (z_W E xa na ma mb ad tx ln (nI ((m_n nx + 1) % 6)) (nI (if m_n ct < 6 then m_n ct + 1 else 6)) f0 f1 (m_tripC g n p (m_n n)) ga gb (va_up v (m_n nx) g)).flatten] : List va_W).flatten H := hP
  have hD : va_D A ([[(ou, .inl (E.2 3, 1, .inr (.inl (vp_updL f 0 (((m_std ((m_tripC g n p (m_n n)) 0) - m_std ((m_tripC g n p (m_n n)) 1))).toInt64)))))], (z_W E xa na ma mb ad tx ln (nI ((m_n nx + 1) % 6)) (nI (if m_n ct < 6 then m_n ct + 1 else 6)) f0 f1 (m_tripC g n p (m_n n)) ga gb (va_up v (m_n nx) g)).flatten] : List va_W).flatten := hD
  refine lv_goto (tgt := 17) hx hb dL_travel_10 (by decide) ?_
  refine lv_iconst (v := 0) hx hb dL_travel_17 (by decide) ?_
  have hP : va_P E.1 vwCl ([(z_W E xa na ma mb ad tx ln (nI ((m_n nx + 1) % 6)) (nI (if m_n ct < 6 then m_n ct + 1 else 6)) f0 f1 (m_tripC g n p (m_n n)) ga gb (va_up v (m_n nx) g)).flatten, [(ou, .inl (E.2 3, 1, .inr (.inl (vp_updL f 0 (((m_std ((m_tripC g n p (m_n n)) 0) - m_std ((m_tripC g n p (m_n n)) 1))).toInt64)))))]] : List va_W).flatten H := zf_sub hP [1, 0] rfl
  have hD : va_D A ([(z_W E xa na ma mb ad tx ln (nI ((m_n nx + 1) % 6)) (nI (if m_n ct < 6 then m_n ct + 1 else 6)) f0 f1 (m_tripC g n p (m_n n)) ga gb (va_up v (m_n nx) g)).flatten, [(ou, .inl (E.2 3, 1, .inr (.inl (vp_updL f 0 (((m_std ((m_tripC g n p (m_n n)) 0) - m_std ((m_tripC g n p (m_n n)) 1))).toInt64)))))]] : List va_W).flatten := zf_subD hD [1, 0] (by decide) rfl
  exact W.iret (v := 0) hx hb hr (z_end hP hD hS rfl) hS.2.2 dL_travel_18 hlocks

set_option maxHeartbeats 4000000 in
set_option maxRecDepth 100000 in
theorem c_L_travel_n (l : Launch) (E : zE) (sa : Nat → Nat) (hl0 : l.stackTraces = false) (ou : Nat) (f : Nat → Int64) (xa na ma mb : Nat → Nat) (ad : Nat → Nat → Nat) (tx : Nat → Int32) (ln nx ct f0 f1 : Int32) (g ga gb : Nat → Int32) (v : Nat → Nat → Int32) (hw : z_wk ln nx ct f0 f1 g ga gb v) (n p : Int32) (hpq : ¬ ((1 ≤ n ∧ n ≤ 120) ∧ (5000 ≤ p ∧ p ≤ 11000))) : zMT l yL_travel wsL_travel ({ frames := 8, cells := 2, slots := 12, locals := 152 }) E sa [.ref (xa 0), .int n, .int p, .ref ou] ([(z_W E xa na ma mb ad tx ln nx ct f0 f1 g ga gb v).flatten, [(ou, .inl (E.2 3, 1, .inr (.inl f)))]] : List va_W).flatten (some (.int 1)) ([(z_W E xa na ma mb ad tx ln nx ct f0 f1 g ga gb v).flatten, [(ou, .inl (E.2 3, 1, .inr (.inl f)))]] : List va_W).flatten 2 12 := by
  refine z_startw (cc := cL_travel) (maxL := 5) (ret := (some .int)) (hh := [(0, 10, 13, 13)]) (by decide) rfl (Nat.le_of_ble_eq_true rfl) ?_
  intro Pg En s Mi below meth Cd A hx hb hr hts hown hlocks hml htab hA hT hZ hN H hH hP hK hD hS ls hl
  have hl : lv_has ls 5 [(0, .ref (xa 0)), (1, .int n), (2, .int p), (3, .ref ou)] := hl
  refine lv_aload_n hx hb dL_travel_0 rfl (lv_at hl 3 rfl) ?_
  refine lv_iconst (v := 0) hx hb dL_travel_1 (by decide) ?_
  refine lv_aload_n hx hb dL_travel_2 rfl (lv_at hl 0 rfl) ?_
  refine lv_iload_n hx hb dL_travel_3 rfl (lv_at hl 1 rfl) ?_
  refine lv_iload_n hx hb dL_travel_4 rfl (lv_at hl 2 rfl) ?_
  have hPc : va_P E.1 vwCl ([(z_W E xa na ma mb ad tx ln nx ct f0 f1 g ga gb v).flatten] : List va_W).flatten H := zf_sub hP [0] rfl
  have hDc : va_D A ([(z_W E xa na ma mb ad tx ln nx ct f0 f1 g ga gb v).flatten] : List va_W).flatten := zf_subD hD [0] (by decide) rfl
  refine z_xmut (Sc := [(z_W E xa na ma mb ad tx ln nx ct f0 f1 g ga gb v).flatten]) (Sr := [[(ou, .inl (E.2 3, 1, .inr (.inl f)))]]) (W1 := [(z_W E xa na ma mb ad tx ln (nI ((m_n nx + 1) % 6)) (nI (if m_n ct < 6 then m_n ct + 1 else 6)) f0 f1 (m_tripC g n p (m_n n)) ga gb (va_up v (m_n nx) g)).flatten]) (vx_runV (As := [.int n, .int p]) (rest := [.int 0, .ref ou]) ⟨hx, hb, hml, hown, hts⟩ (c_X9_travel l E sa hl0 xa na ma mb ad tx ln nx ct f0 f1 g ga gb v hw n p H.size) (cwV 2 hts gL_travel_X9_travel rfl rfl rfl (by decide +kernel) ⟨Nat.le_of_ble_eq_true rfl, Nat.le_of_ble_eq_true rfl⟩) ⟨zPE.blind, va_recv hK.1 hPc (ci := 8) (q0 := 0) rfl rfl, z_preE hK hT hZ hS (zf_free hD hS hA [0] rfl) hPc hDc⟩ rfl rfl hl.1 rfl (lv_room (Nat.le_of_ble_eq_true rfl)) dL_travel_5 ⟨Nat.le_of_ble_eq_true rfl, Nat.le_of_ble_eq_true rfl⟩) hP hD hS hA [0] [1] rfl rfl (by decide) (by decide) (fun Ex ce q9 H locs hps hP hD hS hce hcv hcl => ?_) (fun H locs hph hP hD hS => ?_)
  · have hP : va_P E.1 vwCl ([[(ou, .inl (E.2 3, 1, .inr (.inl f)))], (z_W E xa na ma mb ad tx ln nx ct f0 f1 g ga gb v).flatten] : List va_W).flatten H := hP
    have hD : va_D A ([[(ou, .inl (E.2 3, 1, .inr (.inl f)))], (z_W E xa na ma mb ad tx ln nx ct f0 f1 g ga gb v).flatten] : List va_W).flatten := hD
    obtain ⟨eEx, hno⟩ := hps
    subst eEx
    refine vx_widen (k := 2) (n := 12) (by decide) (by decide) ?_
    refine vx_catch (own := RL) (name := zIA) hown [] ⟨0, 10, 13, 13⟩ [] (htab.trans rfl) (fun z hz => nomatch hz) (by decide) (by decide) (hts (.classLink RL 13 "java/lang/IllegalArgumentException") (by decide +kernel)) hT.cA hce hcv hcl ?_
    refine W.eq (g2 := F0 Mi 13 ls [.ref q9]) rfl ?_
    refine lv_astore (lv' := [(4, .ref q9), (0, .ref (xa 0)), (1, .int n), (2, .int p), (3, .ref ou)]) hx hb dL_travel_13 hl (by decide) rfl (fun ls hl => ?_)
    refine lv_iconst (v := 1) hx hb dL_travel_15 (by decide) ?_
    have hP : va_P E.1 vwCl ([(z_W E xa na ma mb ad tx ln nx ct f0 f1 g ga gb v).flatten, [(ou, .inl (E.2 3, 1, .inr (.inl f)))]] : List va_W).flatten H := zf_sub hP [1, 0] rfl
    have hD : va_D A ([(z_W E xa na ma mb ad tx ln nx ct f0 f1 g ga gb v).flatten, [(ou, .inl (E.2 3, 1, .inr (.inl f)))]] : List va_W).flatten := zf_subD hD [1, 0] (by decide) rfl
    exact W.iret (v := 1) hx hb hr (z_end hP hD hS rfl) hS.2.2 dL_travel_16 hlocks
  have hP : va_P E.1 vwCl ([[(ou, .inl (E.2 3, 1, .inr (.inl f)))], (z_W E xa na ma mb ad tx ln (nI ((m_n nx + 1) % 6)) (nI (if m_n ct < 6 then m_n ct + 1 else 6)) f0 f1 (m_tripC g n p (m_n n)) ga gb (va_up v (m_n nx) g)).flatten] : List va_W).flatten H := hP
  have hD : va_D A ([[(ou, .inl (E.2 3, 1, .inr (.inl f)))], (z_W E xa na ma mb ad tx ln (nI ((m_n nx + 1) % 6)) (nI (if m_n ct < 6 then m_n ct + 1 else 6)) f0 f1 (m_tripC g n p (m_n n)) ga gb (va_up v (m_n nx) g)).flatten] : List va_W).flatten := hD
  refine W.widen (k := 2) (n := 12) (by decide) (by decide) ?_
  refine W.eq (g2 := F0 Mi 8 ls [.int (m_std ((m_tripC g n p (m_n n)) 0) - m_std ((m_tripC g n p (m_n n)) 1)), .int 0, .ref ou]) rfl ?_
  exact absurd hph hpq

set_option maxHeartbeats 4000000 in
set_option maxRecDepth 100000 in
theorem c_L_standard_y (l : Launch) (E : zE) (sa : Nat → Nat) (hl0 : l.stackTraces = false) (ou : Nat) (f : Nat → Int64) (xa na ma mb : Nat → Nat) (ad : Nat → Nat → Nat) (tx : Nat → Int32) (ln nx ct f0 f1 : Int32) (g ga gb : Nat → Int32) (v : Nat → Nat → Int32) (hw : z_wk ln nx ct f0 f1 g ga gb v) (x : Int32) (hpq : 5000 ≤ x ∧ x ≤ 11000) : zMT l yL_standard wsL_standard ({ frames := 8, cells := 1, slots := 6, locals := 133 }) E sa [.ref (xa 0), .int x, .ref ou] ([(z_W E xa na ma mb ad tx ln nx ct f0 f1 g ga gb v).flatten, [(ou, .inl (E.2 3, 1, .inr (.inl f)))]] : List va_W).flatten (some (.int 0)) ([(z_W E xa na ma mb ad tx ln nx ct f0 f1 g ga gb v).flatten, [(ou, .inl (E.2 3, 1, .inr (.inl (vp_updL f 0 ((m_std x)).toInt64))))]] : List va_W).flatten 1 6 := by
  refine z_startw (cc := cL_standard) (maxL := 4) (ret := (some .int)) (hh := [(0, 9, 12, 13)]) (by decide) rfl (Nat.le_of_ble_eq_true rfl) ?_
  intro Pg En s Mi below meth Cd A hx hb hr hts hown hlocks hml htab hA hT hZ hN H hH hP hK hD hS ls hl
  have hl : lv_has ls 4 [(0, .ref (xa 0)), (1, .int x), (2, .ref ou)] := hl
  refine lv_aload_n hx hb dL_standard_0 rfl (lv_at hl 2 rfl) ?_
  refine lv_iconst (v := 0) hx hb dL_standard_1 (by decide) ?_
  refine lv_aload_n hx hb dL_standard_2 rfl (lv_at hl 0 rfl) ?_
  refine lv_iload_n hx hb dL_standard_3 rfl (lv_at hl 1 rfl) ?_
  have hPc : va_P E.1 vwCl ([(z_W E xa na ma mb ad tx ln nx ct f0 f1 g ga gb v).flatten] : List va_W).flatten H := zf_sub hP [0] rfl
  have hDc : va_D A ([(z_W E xa na ma mb ad tx ln nx ct f0 f1 g ga gb v).flatten] : List va_W).flatten := zf_subD hD [0] (by decide) rfl
  refine z_xmut (Sc := [(z_W E xa na ma mb ad tx ln nx ct f0 f1 g ga gb v).flatten]) (Sr := [[(ou, .inl (E.2 3, 1, .inr (.inl f)))]]) (W1 := [(z_W E xa na ma mb ad tx ln nx ct f0 f1 g ga gb v).flatten]) (vx_runV (As := [.int x]) (rest := [.int 0, .ref ou]) ⟨hx, hb, hml, hown, hts⟩ (c_X9_standard l E sa hl0 xa na ma mb ad tx ln nx ct f0 f1 g ga gb v hw x H.size) (cwV 1 hts gL_standard_X9_standard rfl rfl rfl (by decide +kernel) ⟨Nat.le_of_ble_eq_true rfl, Nat.le_of_ble_eq_true rfl⟩) ⟨zPE.blind, va_recv hK.1 hPc (ci := 8) (q0 := 0) rfl rfl, z_preE hK hT hZ hS (zf_free hD hS hA [0] rfl) hPc hDc⟩ rfl rfl hl.1 rfl (lv_room (Nat.le_of_ble_eq_true rfl)) dL_standard_4 ⟨Nat.le_of_ble_eq_true rfl, Nat.le_of_ble_eq_true rfl⟩) hP hD hS hA [0] [1] rfl rfl (by decide) (by decide) (fun Ex ce q9 H locs hps hP hD hS hce hcv hcl => ?_) (fun H locs hph hP hD hS => ?_)
  · have hP : va_P E.1 vwCl ([[(ou, .inl (E.2 3, 1, .inr (.inl f)))], (z_W E xa na ma mb ad tx ln nx ct f0 f1 g ga gb v).flatten] : List va_W).flatten H := hP
    have hD : va_D A ([[(ou, .inl (E.2 3, 1, .inr (.inl f)))], (z_W E xa na ma mb ad tx ln nx ct f0 f1 g ga gb v).flatten] : List va_W).flatten := hD
    exact absurd hpq hps.2
  have hP : va_P E.1 vwCl ([[(ou, .inl (E.2 3, 1, .inr (.inl f)))], (z_W E xa na ma mb ad tx ln nx ct f0 f1 g ga gb v).flatten] : List va_W).flatten H := hP
  have hD : va_D A ([[(ou, .inl (E.2 3, 1, .inr (.inl f)))], (z_W E xa na ma mb ad tx ln nx ct f0 f1 g ga gb v).flatten] : List va_W).flatten := hD
  refine W.widen (k := 1) (n := 6) (by decide) (by decide) ?_
  refine W.eq (g2 := F0 Mi 7 ls [.int (m_std x), .int 0, .ref ou]) rfl ?_
  refine lv_i2l hx hb dL_standard_7 rfl ?_
  refine z_last (k := 0) hx hb hK.1 hP hD hS 0 rfl rfl (by decide) (by decide) dL_standard_8 (fun H locs hP hD hS => ?_)
  have hP : va_P E.1 vwCl ([[(ou, .inl (E.2 3, 1, .inr (.inl (vp_updL f 0 (((m_std x)).toInt64)))))], (z_W E xa na ma mb ad tx ln nx ct f0 f1 g ga gb v).flatten] : List va_W).flatten H := hP
  have hD : va_D A ([[(ou, .inl (E.2 3, 1, .inr (.inl (vp_updL f 0 (((m_std x)).toInt64)))))], (z_W E xa na ma mb ad tx ln nx ct f0 f1 g ga gb v).flatten] : List va_W).flatten := hD
  refine lv_goto (tgt := 15) hx hb dL_standard_9 (by decide) ?_
  refine lv_iconst (v := 0) hx hb dL_standard_15 (by decide) ?_
  have hP : va_P E.1 vwCl ([(z_W E xa na ma mb ad tx ln nx ct f0 f1 g ga gb v).flatten, [(ou, .inl (E.2 3, 1, .inr (.inl (vp_updL f 0 (((m_std x)).toInt64)))))]] : List va_W).flatten H := zf_sub hP [1, 0] rfl
  have hD : va_D A ([(z_W E xa na ma mb ad tx ln nx ct f0 f1 g ga gb v).flatten, [(ou, .inl (E.2 3, 1, .inr (.inl (vp_updL f 0 (((m_std x)).toInt64)))))]] : List va_W).flatten := zf_subD hD [1, 0] (by decide) rfl
  exact W.iret (v := 0) hx hb hr (z_end hP hD hS rfl) hS.2.2 dL_standard_16 hlocks

set_option maxHeartbeats 4000000 in
set_option maxRecDepth 100000 in
theorem c_L_standard_n (l : Launch) (E : zE) (sa : Nat → Nat) (hl0 : l.stackTraces = false) (ou : Nat) (f : Nat → Int64) (xa na ma mb : Nat → Nat) (ad : Nat → Nat → Nat) (tx : Nat → Int32) (ln nx ct f0 f1 : Int32) (g ga gb : Nat → Int32) (v : Nat → Nat → Int32) (hw : z_wk ln nx ct f0 f1 g ga gb v) (x : Int32) (hpq : ¬ (5000 ≤ x ∧ x ≤ 11000)) : zMT l yL_standard wsL_standard ({ frames := 8, cells := 1, slots := 6, locals := 133 }) E sa [.ref (xa 0), .int x, .ref ou] ([(z_W E xa na ma mb ad tx ln nx ct f0 f1 g ga gb v).flatten, [(ou, .inl (E.2 3, 1, .inr (.inl f)))]] : List va_W).flatten (some (.int 1)) ([(z_W E xa na ma mb ad tx ln nx ct f0 f1 g ga gb v).flatten, [(ou, .inl (E.2 3, 1, .inr (.inl f)))]] : List va_W).flatten 1 6 := by
  refine z_startw (cc := cL_standard) (maxL := 4) (ret := (some .int)) (hh := [(0, 9, 12, 13)]) (by decide) rfl (Nat.le_of_ble_eq_true rfl) ?_
  intro Pg En s Mi below meth Cd A hx hb hr hts hown hlocks hml htab hA hT hZ hN H hH hP hK hD hS ls hl
  have hl : lv_has ls 4 [(0, .ref (xa 0)), (1, .int x), (2, .ref ou)] := hl
  refine lv_aload_n hx hb dL_standard_0 rfl (lv_at hl 2 rfl) ?_
  refine lv_iconst (v := 0) hx hb dL_standard_1 (by decide) ?_
  refine lv_aload_n hx hb dL_standard_2 rfl (lv_at hl 0 rfl) ?_
  refine lv_iload_n hx hb dL_standard_3 rfl (lv_at hl 1 rfl) ?_
  have hPc : va_P E.1 vwCl ([(z_W E xa na ma mb ad tx ln nx ct f0 f1 g ga gb v).flatten] : List va_W).flatten H := zf_sub hP [0] rfl
  have hDc : va_D A ([(z_W E xa na ma mb ad tx ln nx ct f0 f1 g ga gb v).flatten] : List va_W).flatten := zf_subD hD [0] (by decide) rfl
  refine z_xmut (Sc := [(z_W E xa na ma mb ad tx ln nx ct f0 f1 g ga gb v).flatten]) (Sr := [[(ou, .inl (E.2 3, 1, .inr (.inl f)))]]) (W1 := [(z_W E xa na ma mb ad tx ln nx ct f0 f1 g ga gb v).flatten]) (vx_runV (As := [.int x]) (rest := [.int 0, .ref ou]) ⟨hx, hb, hml, hown, hts⟩ (c_X9_standard l E sa hl0 xa na ma mb ad tx ln nx ct f0 f1 g ga gb v hw x H.size) (cwV 1 hts gL_standard_X9_standard rfl rfl rfl (by decide +kernel) ⟨Nat.le_of_ble_eq_true rfl, Nat.le_of_ble_eq_true rfl⟩) ⟨zPE.blind, va_recv hK.1 hPc (ci := 8) (q0 := 0) rfl rfl, z_preE hK hT hZ hS (zf_free hD hS hA [0] rfl) hPc hDc⟩ rfl rfl hl.1 rfl (lv_room (Nat.le_of_ble_eq_true rfl)) dL_standard_4 ⟨Nat.le_of_ble_eq_true rfl, Nat.le_of_ble_eq_true rfl⟩) hP hD hS hA [0] [1] rfl rfl (by decide) (by decide) (fun Ex ce q9 H locs hps hP hD hS hce hcv hcl => ?_) (fun H locs hph hP hD hS => ?_)
  · have hP : va_P E.1 vwCl ([[(ou, .inl (E.2 3, 1, .inr (.inl f)))], (z_W E xa na ma mb ad tx ln nx ct f0 f1 g ga gb v).flatten] : List va_W).flatten H := hP
    have hD : va_D A ([[(ou, .inl (E.2 3, 1, .inr (.inl f)))], (z_W E xa na ma mb ad tx ln nx ct f0 f1 g ga gb v).flatten] : List va_W).flatten := hD
    obtain ⟨eEx, hno⟩ := hps
    subst eEx
    refine vx_widen (k := 1) (n := 6) (by decide) (by decide) ?_
    refine vx_catch (own := RL) (name := zIA) hown [] ⟨0, 9, 12, 13⟩ [] (htab.trans rfl) (fun z hz => nomatch hz) (by decide) (by decide) (hts (.classLink RL 13 "java/lang/IllegalArgumentException") (by decide +kernel)) hT.cA hce hcv hcl ?_
    refine W.eq (g2 := F0 Mi 12 ls [.ref q9]) rfl ?_
    refine lv_astore_n (lv' := [(3, .ref q9), (0, .ref (xa 0)), (1, .int x), (2, .ref ou)]) hx hb dL_standard_12 rfl hl (by decide) rfl (fun ls hl => ?_)
    refine lv_iconst (v := 1) hx hb dL_standard_13 (by decide) ?_
    have hP : va_P E.1 vwCl ([(z_W E xa na ma mb ad tx ln nx ct f0 f1 g ga gb v).flatten, [(ou, .inl (E.2 3, 1, .inr (.inl f)))]] : List va_W).flatten H := zf_sub hP [1, 0] rfl
    have hD : va_D A ([(z_W E xa na ma mb ad tx ln nx ct f0 f1 g ga gb v).flatten, [(ou, .inl (E.2 3, 1, .inr (.inl f)))]] : List va_W).flatten := zf_subD hD [1, 0] (by decide) rfl
    exact W.iret (v := 1) hx hb hr (z_end hP hD hS rfl) hS.2.2 dL_standard_14 hlocks
  have hP : va_P E.1 vwCl ([[(ou, .inl (E.2 3, 1, .inr (.inl f)))], (z_W E xa na ma mb ad tx ln nx ct f0 f1 g ga gb v).flatten] : List va_W).flatten H := hP
  have hD : va_D A ([[(ou, .inl (E.2 3, 1, .inr (.inl f)))], (z_W E xa na ma mb ad tx ln nx ct f0 f1 g ga gb v).flatten] : List va_W).flatten := hD
  refine W.widen (k := 1) (n := 6) (by decide) (by decide) ?_
  refine W.eq (g2 := F0 Mi 7 ls [.int (m_std x), .int 0, .ref ou]) rfl ?_
  exact absurd hph hpq

set_option maxHeartbeats 4000000 in
set_option maxRecDepth 100000 in
theorem c_L_setSea_y (l : Launch) (E : zE) (sa : Nat → Nat) (hl0 : l.stackTraces = false) (ou : Nat) (f : Nat → Int64) (xa na ma mb : Nat → Nat) (ad : Nat → Nat → Nat) (tx : Nat → Int32) (ln nx ct f0 f1 : Int32) (g ga gb : Nat → Int32) (v : Nat → Nat → Int32) (hw : z_wk ln nx ct f0 f1 g ga gb v) (x : Int32) (hpq : 9000 ≤ x ∧ x ≤ 10800) : zMT l yL_setSea wsL_setSea ({ frames := 8, cells := 1, slots := 6, locals := 134 }) E sa [.ref (xa 0), .int x, .ref ou] ([(z_W E xa na ma mb ad tx ln nx ct f0 f1 g ga gb v).flatten, [(ou, .inl (E.2 3, 1, .inr (.inl f)))]] : List va_W).flatten (some (.int 0)) ([(z_W E xa na ma mb ad tx ln (nI ((m_n nx + 1) % 6)) (nI (if m_n ct < 6 then m_n ct + 1 else 6)) f0 f1 (m_seaC g x) ga gb (va_up v (m_n nx) g)).flatten, [(ou, .inl (E.2 3, 1, .inr (.inl (vp_updL f 0 ((g 1)).toInt64))))]] : List va_W).flatten 1 6 := by
  refine z_startw (cc := cL_setSea) (maxL := 4) (ret := (some .int)) (hh := [(0, 9, 12, 13)]) (by decide) rfl (Nat.le_of_ble_eq_true rfl) ?_
  intro Pg En s Mi below meth Cd A hx hb hr hts hown hlocks hml htab hA hT hZ hN H hH hP hK hD hS ls hl
  have hl : lv_has ls 4 [(0, .ref (xa 0)), (1, .int x), (2, .ref ou)] := hl
  refine lv_aload_n hx hb dL_setSea_0 rfl (lv_at hl 2 rfl) ?_
  refine lv_iconst (v := 0) hx hb dL_setSea_1 (by decide) ?_
  refine lv_aload_n hx hb dL_setSea_2 rfl (lv_at hl 0 rfl) ?_
  refine lv_iload_n hx hb dL_setSea_3 rfl (lv_at hl 1 rfl) ?_
  have hPc : va_P E.1 vwCl ([(z_W E xa na ma mb ad tx ln nx ct f0 f1 g ga gb v).flatten] : List va_W).flatten H := zf_sub hP [0] rfl
  have hDc : va_D A ([(z_W E xa na ma mb ad tx ln nx ct f0 f1 g ga gb v).flatten] : List va_W).flatten := zf_subD hD [0] (by decide) rfl
  refine z_xmut (Sc := [(z_W E xa na ma mb ad tx ln nx ct f0 f1 g ga gb v).flatten]) (Sr := [[(ou, .inl (E.2 3, 1, .inr (.inl f)))]]) (W1 := [(z_W E xa na ma mb ad tx ln (nI ((m_n nx + 1) % 6)) (nI (if m_n ct < 6 then m_n ct + 1 else 6)) f0 f1 (m_seaC g x) ga gb (va_up v (m_n nx) g)).flatten]) (vx_runV (As := [.int x]) (rest := [.int 0, .ref ou]) ⟨hx, hb, hml, hown, hts⟩ (c_X9_setSea l E sa hl0 xa na ma mb ad tx ln nx ct f0 f1 g ga gb v hw x H.size) (cwV 1 hts gL_setSea_X9_setSea rfl rfl rfl (by decide +kernel) ⟨Nat.le_of_ble_eq_true rfl, Nat.le_of_ble_eq_true rfl⟩) ⟨zPE.blind, va_recv hK.1 hPc (ci := 8) (q0 := 0) rfl rfl, z_preE hK hT hZ hS (zf_free hD hS hA [0] rfl) hPc hDc⟩ rfl rfl hl.1 rfl (lv_room (Nat.le_of_ble_eq_true rfl)) dL_setSea_4 ⟨Nat.le_of_ble_eq_true rfl, Nat.le_of_ble_eq_true rfl⟩) hP hD hS hA [0] [1] rfl rfl (by decide) (by decide) (fun Ex ce q9 H locs hps hP hD hS hce hcv hcl => ?_) (fun H locs hph hP hD hS => ?_)
  · have hP : va_P E.1 vwCl ([[(ou, .inl (E.2 3, 1, .inr (.inl f)))], (z_W E xa na ma mb ad tx ln nx ct f0 f1 g ga gb v).flatten] : List va_W).flatten H := hP
    have hD : va_D A ([[(ou, .inl (E.2 3, 1, .inr (.inl f)))], (z_W E xa na ma mb ad tx ln nx ct f0 f1 g ga gb v).flatten] : List va_W).flatten := hD
    exact absurd hpq hps.2
  have hP : va_P E.1 vwCl ([[(ou, .inl (E.2 3, 1, .inr (.inl f)))], (z_W E xa na ma mb ad tx ln (nI ((m_n nx + 1) % 6)) (nI (if m_n ct < 6 then m_n ct + 1 else 6)) f0 f1 (m_seaC g x) ga gb (va_up v (m_n nx) g)).flatten] : List va_W).flatten H := hP
  have hD : va_D A ([[(ou, .inl (E.2 3, 1, .inr (.inl f)))], (z_W E xa na ma mb ad tx ln (nI ((m_n nx + 1) % 6)) (nI (if m_n ct < 6 then m_n ct + 1 else 6)) f0 f1 (m_seaC g x) ga gb (va_up v (m_n nx) g)).flatten] : List va_W).flatten := hD
  refine W.widen (k := 1) (n := 6) (by decide) (by decide) ?_
  refine W.eq (g2 := F0 Mi 7 ls [.int (g 1), .int 0, .ref ou]) rfl ?_
  refine lv_i2l hx hb dL_setSea_7 rfl ?_
  refine z_last (k := 0) hx hb hK.1 hP hD hS 0 rfl rfl (by decide) (by decide) dL_setSea_8 (fun H locs hP hD hS => ?_)
  have hP : va_P E.1 vwCl ([[(ou, .inl (E.2 3, 1, .inr (.inl (vp_updL f 0 (((g 1)).toInt64)))))], (z_W E xa na ma mb ad tx ln (nI ((m_n nx + 1) % 6)) (nI (if m_n ct < 6 then m_n ct + 1 else 6)) f0 f1 (m_seaC g x) ga gb (va_up v (m_n nx) g)).flatten] : List va_W).flatten H := hP
  have hD : va_D A ([[(ou, .inl (E.2 3, 1, .inr (.inl (vp_updL f 0 (((g 1)).toInt64)))))], (z_W E xa na ma mb ad tx ln (nI ((m_n nx + 1) % 6)) (nI (if m_n ct < 6 then m_n ct + 1 else 6)) f0 f1 (m_seaC g x) ga gb (va_up v (m_n nx) g)).flatten] : List va_W).flatten := hD
  refine lv_goto (tgt := 15) hx hb dL_setSea_9 (by decide) ?_
  refine lv_iconst (v := 0) hx hb dL_setSea_15 (by decide) ?_
  have hP : va_P E.1 vwCl ([(z_W E xa na ma mb ad tx ln (nI ((m_n nx + 1) % 6)) (nI (if m_n ct < 6 then m_n ct + 1 else 6)) f0 f1 (m_seaC g x) ga gb (va_up v (m_n nx) g)).flatten, [(ou, .inl (E.2 3, 1, .inr (.inl (vp_updL f 0 (((g 1)).toInt64)))))]] : List va_W).flatten H := zf_sub hP [1, 0] rfl
  have hD : va_D A ([(z_W E xa na ma mb ad tx ln (nI ((m_n nx + 1) % 6)) (nI (if m_n ct < 6 then m_n ct + 1 else 6)) f0 f1 (m_seaC g x) ga gb (va_up v (m_n nx) g)).flatten, [(ou, .inl (E.2 3, 1, .inr (.inl (vp_updL f 0 (((g 1)).toInt64)))))]] : List va_W).flatten := zf_subD hD [1, 0] (by decide) rfl
  exact W.iret (v := 0) hx hb hr (z_end hP hD hS rfl) hS.2.2 dL_setSea_16 hlocks

set_option maxHeartbeats 4000000 in
set_option maxRecDepth 100000 in
theorem c_L_setSea_n (l : Launch) (E : zE) (sa : Nat → Nat) (hl0 : l.stackTraces = false) (ou : Nat) (f : Nat → Int64) (xa na ma mb : Nat → Nat) (ad : Nat → Nat → Nat) (tx : Nat → Int32) (ln nx ct f0 f1 : Int32) (g ga gb : Nat → Int32) (v : Nat → Nat → Int32) (hw : z_wk ln nx ct f0 f1 g ga gb v) (x : Int32) (hpq : ¬ (9000 ≤ x ∧ x ≤ 10800)) : zMT l yL_setSea wsL_setSea ({ frames := 8, cells := 1, slots := 6, locals := 134 }) E sa [.ref (xa 0), .int x, .ref ou] ([(z_W E xa na ma mb ad tx ln nx ct f0 f1 g ga gb v).flatten, [(ou, .inl (E.2 3, 1, .inr (.inl f)))]] : List va_W).flatten (some (.int 1)) ([(z_W E xa na ma mb ad tx ln nx ct f0 f1 g ga gb v).flatten, [(ou, .inl (E.2 3, 1, .inr (.inl f)))]] : List va_W).flatten 1 6 := by
  refine z_startw (cc := cL_setSea) (maxL := 4) (ret := (some .int)) (hh := [(0, 9, 12, 13)]) (by decide) rfl (Nat.le_of_ble_eq_true rfl) ?_
  intro Pg En s Mi below meth Cd A hx hb hr hts hown hlocks hml htab hA hT hZ hN H hH hP hK hD hS ls hl
  have hl : lv_has ls 4 [(0, .ref (xa 0)), (1, .int x), (2, .ref ou)] := hl
  refine lv_aload_n hx hb dL_setSea_0 rfl (lv_at hl 2 rfl) ?_
  refine lv_iconst (v := 0) hx hb dL_setSea_1 (by decide) ?_
  refine lv_aload_n hx hb dL_setSea_2 rfl (lv_at hl 0 rfl) ?_
  refine lv_iload_n hx hb dL_setSea_3 rfl (lv_at hl 1 rfl) ?_
  have hPc : va_P E.1 vwCl ([(z_W E xa na ma mb ad tx ln nx ct f0 f1 g ga gb v).flatten] : List va_W).flatten H := zf_sub hP [0] rfl
  have hDc : va_D A ([(z_W E xa na ma mb ad tx ln nx ct f0 f1 g ga gb v).flatten] : List va_W).flatten := zf_subD hD [0] (by decide) rfl
  refine z_xmut (Sc := [(z_W E xa na ma mb ad tx ln nx ct f0 f1 g ga gb v).flatten]) (Sr := [[(ou, .inl (E.2 3, 1, .inr (.inl f)))]]) (W1 := [(z_W E xa na ma mb ad tx ln (nI ((m_n nx + 1) % 6)) (nI (if m_n ct < 6 then m_n ct + 1 else 6)) f0 f1 (m_seaC g x) ga gb (va_up v (m_n nx) g)).flatten]) (vx_runV (As := [.int x]) (rest := [.int 0, .ref ou]) ⟨hx, hb, hml, hown, hts⟩ (c_X9_setSea l E sa hl0 xa na ma mb ad tx ln nx ct f0 f1 g ga gb v hw x H.size) (cwV 1 hts gL_setSea_X9_setSea rfl rfl rfl (by decide +kernel) ⟨Nat.le_of_ble_eq_true rfl, Nat.le_of_ble_eq_true rfl⟩) ⟨zPE.blind, va_recv hK.1 hPc (ci := 8) (q0 := 0) rfl rfl, z_preE hK hT hZ hS (zf_free hD hS hA [0] rfl) hPc hDc⟩ rfl rfl hl.1 rfl (lv_room (Nat.le_of_ble_eq_true rfl)) dL_setSea_4 ⟨Nat.le_of_ble_eq_true rfl, Nat.le_of_ble_eq_true rfl⟩) hP hD hS hA [0] [1] rfl rfl (by decide) (by decide) (fun Ex ce q9 H locs hps hP hD hS hce hcv hcl => ?_) (fun H locs hph hP hD hS => ?_)
  · have hP : va_P E.1 vwCl ([[(ou, .inl (E.2 3, 1, .inr (.inl f)))], (z_W E xa na ma mb ad tx ln nx ct f0 f1 g ga gb v).flatten] : List va_W).flatten H := hP
    have hD : va_D A ([[(ou, .inl (E.2 3, 1, .inr (.inl f)))], (z_W E xa na ma mb ad tx ln nx ct f0 f1 g ga gb v).flatten] : List va_W).flatten := hD
    obtain ⟨eEx, hno⟩ := hps
    subst eEx
    refine vx_widen (k := 1) (n := 6) (by decide) (by decide) ?_
    refine vx_catch (own := RL) (name := zIA) hown [] ⟨0, 9, 12, 13⟩ [] (htab.trans rfl) (fun z hz => nomatch hz) (by decide) (by decide) (hts (.classLink RL 13 "java/lang/IllegalArgumentException") (by decide +kernel)) hT.cA hce hcv hcl ?_
    refine W.eq (g2 := F0 Mi 12 ls [.ref q9]) rfl ?_
    refine lv_astore_n (lv' := [(3, .ref q9), (0, .ref (xa 0)), (1, .int x), (2, .ref ou)]) hx hb dL_setSea_12 rfl hl (by decide) rfl (fun ls hl => ?_)
    refine lv_iconst (v := 1) hx hb dL_setSea_13 (by decide) ?_
    have hP : va_P E.1 vwCl ([(z_W E xa na ma mb ad tx ln nx ct f0 f1 g ga gb v).flatten, [(ou, .inl (E.2 3, 1, .inr (.inl f)))]] : List va_W).flatten H := zf_sub hP [1, 0] rfl
    have hD : va_D A ([(z_W E xa na ma mb ad tx ln nx ct f0 f1 g ga gb v).flatten, [(ou, .inl (E.2 3, 1, .inr (.inl f)))]] : List va_W).flatten := zf_subD hD [1, 0] (by decide) rfl
    exact W.iret (v := 1) hx hb hr (z_end hP hD hS rfl) hS.2.2 dL_setSea_14 hlocks
  have hP : va_P E.1 vwCl ([[(ou, .inl (E.2 3, 1, .inr (.inl f)))], (z_W E xa na ma mb ad tx ln (nI ((m_n nx + 1) % 6)) (nI (if m_n ct < 6 then m_n ct + 1 else 6)) f0 f1 (m_seaC g x) ga gb (va_up v (m_n nx) g)).flatten] : List va_W).flatten H := hP
  have hD : va_D A ([[(ou, .inl (E.2 3, 1, .inr (.inl f)))], (z_W E xa na ma mb ad tx ln (nI ((m_n nx + 1) % 6)) (nI (if m_n ct < 6 then m_n ct + 1 else 6)) f0 f1 (m_seaC g x) ga gb (va_up v (m_n nx) g)).flatten] : List va_W).flatten := hD
  refine W.widen (k := 1) (n := 6) (by decide) (by decide) ?_
  refine W.eq (g2 := F0 Mi 7 ls [.int (g 1), .int 0, .ref ou]) rfl ?_
  exact absurd hph hpq

set_option maxHeartbeats 4000000 in
set_option maxRecDepth 100000 in
theorem c_L_calibrate_y (l : Launch) (E : zE) (sa : Nat → Nat) (hl0 : l.stackTraces = false) (ou : Nat) (f : Nat → Int64) (xa na ma mb : Nat → Nat) (ad : Nat → Nat → Nat) (tx : Nat → Int32) (ln nx ct f0 f1 : Int32) (g ga gb : Nat → Int32) (v : Nat → Nat → Int32) (hw : z_wk ln nx ct f0 f1 g ga gb v) (x : Int32) (hpq : -5000 ≤ x ∧ x ≤ 50000) : zMT l yL_calibrate wsL_calibrate ({ frames := 8, cells := 1, slots := 6, locals := 133 }) E sa [.ref (xa 0), .int x, .ref ou] ([(z_W E xa na ma mb ad tx ln nx ct f0 f1 g ga gb v).flatten, [(ou, .inl (E.2 3, 1, .inr (.inl f)))]] : List va_W).flatten (some (.int 0)) ([(z_W E xa na ma mb ad tx ln (nI ((m_n nx + 1) % 6)) (nI (if m_n ct < 6 then m_n ct + 1 else 6)) f0 f1 (m_calC g x) ga gb (va_up v (m_n nx) g)).flatten, [(ou, .inl (E.2 3, 1, .inr (.inl (vp_updL f 0 ((m_std (g 0) - m_std (g 1) - x)).toInt64))))]] : List va_W).flatten 1 6 := by
  refine z_startw (cc := cL_calibrate) (maxL := 4) (ret := (some .int)) (hh := [(0, 9, 12, 13)]) (by decide) rfl (Nat.le_of_ble_eq_true rfl) ?_
  intro Pg En s Mi below meth Cd A hx hb hr hts hown hlocks hml htab hA hT hZ hN H hH hP hK hD hS ls hl
  have hl : lv_has ls 4 [(0, .ref (xa 0)), (1, .int x), (2, .ref ou)] := hl
  refine lv_aload_n hx hb dL_calibrate_0 rfl (lv_at hl 2 rfl) ?_
  refine lv_iconst (v := 0) hx hb dL_calibrate_1 (by decide) ?_
  refine lv_aload_n hx hb dL_calibrate_2 rfl (lv_at hl 0 rfl) ?_
  refine lv_iload_n hx hb dL_calibrate_3 rfl (lv_at hl 1 rfl) ?_
  have hPc : va_P E.1 vwCl ([(z_W E xa na ma mb ad tx ln nx ct f0 f1 g ga gb v).flatten] : List va_W).flatten H := zf_sub hP [0] rfl
  have hDc : va_D A ([(z_W E xa na ma mb ad tx ln nx ct f0 f1 g ga gb v).flatten] : List va_W).flatten := zf_subD hD [0] (by decide) rfl
  refine z_xmut (Sc := [(z_W E xa na ma mb ad tx ln nx ct f0 f1 g ga gb v).flatten]) (Sr := [[(ou, .inl (E.2 3, 1, .inr (.inl f)))]]) (W1 := [(z_W E xa na ma mb ad tx ln (nI ((m_n nx + 1) % 6)) (nI (if m_n ct < 6 then m_n ct + 1 else 6)) f0 f1 (m_calC g x) ga gb (va_up v (m_n nx) g)).flatten]) (vx_runV (As := [.int x]) (rest := [.int 0, .ref ou]) ⟨hx, hb, hml, hown, hts⟩ (c_X9_calibrate l E sa hl0 xa na ma mb ad tx ln nx ct f0 f1 g ga gb v hw x H.size) (cwV 1 hts gL_calibrate_X9_calibrate rfl rfl rfl (by decide +kernel) ⟨Nat.le_of_ble_eq_true rfl, Nat.le_of_ble_eq_true rfl⟩) ⟨zPE.blind, va_recv hK.1 hPc (ci := 8) (q0 := 0) rfl rfl, z_preE hK hT hZ hS (zf_free hD hS hA [0] rfl) hPc hDc⟩ rfl rfl hl.1 rfl (lv_room (Nat.le_of_ble_eq_true rfl)) dL_calibrate_4 ⟨Nat.le_of_ble_eq_true rfl, Nat.le_of_ble_eq_true rfl⟩) hP hD hS hA [0] [1] rfl rfl (by decide) (by decide) (fun Ex ce q9 H locs hps hP hD hS hce hcv hcl => ?_) (fun H locs hph hP hD hS => ?_)
  · have hP : va_P E.1 vwCl ([[(ou, .inl (E.2 3, 1, .inr (.inl f)))], (z_W E xa na ma mb ad tx ln nx ct f0 f1 g ga gb v).flatten] : List va_W).flatten H := hP
    have hD : va_D A ([[(ou, .inl (E.2 3, 1, .inr (.inl f)))], (z_W E xa na ma mb ad tx ln nx ct f0 f1 g ga gb v).flatten] : List va_W).flatten := hD
    exact absurd hpq hps.2
  have hP : va_P E.1 vwCl ([[(ou, .inl (E.2 3, 1, .inr (.inl f)))], (z_W E xa na ma mb ad tx ln (nI ((m_n nx + 1) % 6)) (nI (if m_n ct < 6 then m_n ct + 1 else 6)) f0 f1 (m_calC g x) ga gb (va_up v (m_n nx) g)).flatten] : List va_W).flatten H := hP
  have hD : va_D A ([[(ou, .inl (E.2 3, 1, .inr (.inl f)))], (z_W E xa na ma mb ad tx ln (nI ((m_n nx + 1) % 6)) (nI (if m_n ct < 6 then m_n ct + 1 else 6)) f0 f1 (m_calC g x) ga gb (va_up v (m_n nx) g)).flatten] : List va_W).flatten := hD
  refine W.widen (k := 1) (n := 6) (by decide) (by decide) ?_
  refine W.eq (g2 := F0 Mi 7 ls [.int (m_std (g 0) - m_std (g 1) - x), .int 0, .ref ou]) rfl ?_
  refine lv_i2l hx hb dL_calibrate_7 rfl ?_
  refine z_last (k := 0) hx hb hK.1 hP hD hS 0 rfl rfl (by decide) (by decide) dL_calibrate_8 (fun H locs hP hD hS => ?_)
  have hP : va_P E.1 vwCl ([[(ou, .inl (E.2 3, 1, .inr (.inl (vp_updL f 0 (((m_std (g 0) - m_std (g 1) - x)).toInt64)))))], (z_W E xa na ma mb ad tx ln (nI ((m_n nx + 1) % 6)) (nI (if m_n ct < 6 then m_n ct + 1 else 6)) f0 f1 (m_calC g x) ga gb (va_up v (m_n nx) g)).flatten] : List va_W).flatten H := hP
  have hD : va_D A ([[(ou, .inl (E.2 3, 1, .inr (.inl (vp_updL f 0 (((m_std (g 0) - m_std (g 1) - x)).toInt64)))))], (z_W E xa na ma mb ad tx ln (nI ((m_n nx + 1) % 6)) (nI (if m_n ct < 6 then m_n ct + 1 else 6)) f0 f1 (m_calC g x) ga gb (va_up v (m_n nx) g)).flatten] : List va_W).flatten := hD
  refine lv_goto (tgt := 15) hx hb dL_calibrate_9 (by decide) ?_
  refine lv_iconst (v := 0) hx hb dL_calibrate_15 (by decide) ?_
  have hP : va_P E.1 vwCl ([(z_W E xa na ma mb ad tx ln (nI ((m_n nx + 1) % 6)) (nI (if m_n ct < 6 then m_n ct + 1 else 6)) f0 f1 (m_calC g x) ga gb (va_up v (m_n nx) g)).flatten, [(ou, .inl (E.2 3, 1, .inr (.inl (vp_updL f 0 (((m_std (g 0) - m_std (g 1) - x)).toInt64)))))]] : List va_W).flatten H := zf_sub hP [1, 0] rfl
  have hD : va_D A ([(z_W E xa na ma mb ad tx ln (nI ((m_n nx + 1) % 6)) (nI (if m_n ct < 6 then m_n ct + 1 else 6)) f0 f1 (m_calC g x) ga gb (va_up v (m_n nx) g)).flatten, [(ou, .inl (E.2 3, 1, .inr (.inl (vp_updL f 0 (((m_std (g 0) - m_std (g 1) - x)).toInt64)))))]] : List va_W).flatten := zf_subD hD [1, 0] (by decide) rfl
  exact W.iret (v := 0) hx hb hr (z_end hP hD hS rfl) hS.2.2 dL_calibrate_16 hlocks

set_option maxHeartbeats 4000000 in
set_option maxRecDepth 100000 in
theorem c_L_calibrate_n (l : Launch) (E : zE) (sa : Nat → Nat) (hl0 : l.stackTraces = false) (ou : Nat) (f : Nat → Int64) (xa na ma mb : Nat → Nat) (ad : Nat → Nat → Nat) (tx : Nat → Int32) (ln nx ct f0 f1 : Int32) (g ga gb : Nat → Int32) (v : Nat → Nat → Int32) (hw : z_wk ln nx ct f0 f1 g ga gb v) (x : Int32) (hpq : ¬ (-5000 ≤ x ∧ x ≤ 50000)) : zMT l yL_calibrate wsL_calibrate ({ frames := 8, cells := 1, slots := 6, locals := 133 }) E sa [.ref (xa 0), .int x, .ref ou] ([(z_W E xa na ma mb ad tx ln nx ct f0 f1 g ga gb v).flatten, [(ou, .inl (E.2 3, 1, .inr (.inl f)))]] : List va_W).flatten (some (.int 1)) ([(z_W E xa na ma mb ad tx ln nx ct f0 f1 g ga gb v).flatten, [(ou, .inl (E.2 3, 1, .inr (.inl f)))]] : List va_W).flatten 1 6 := by
  refine z_startw (cc := cL_calibrate) (maxL := 4) (ret := (some .int)) (hh := [(0, 9, 12, 13)]) (by decide) rfl (Nat.le_of_ble_eq_true rfl) ?_
  intro Pg En s Mi below meth Cd A hx hb hr hts hown hlocks hml htab hA hT hZ hN H hH hP hK hD hS ls hl
  have hl : lv_has ls 4 [(0, .ref (xa 0)), (1, .int x), (2, .ref ou)] := hl
  refine lv_aload_n hx hb dL_calibrate_0 rfl (lv_at hl 2 rfl) ?_
  refine lv_iconst (v := 0) hx hb dL_calibrate_1 (by decide) ?_
  refine lv_aload_n hx hb dL_calibrate_2 rfl (lv_at hl 0 rfl) ?_
  refine lv_iload_n hx hb dL_calibrate_3 rfl (lv_at hl 1 rfl) ?_
  have hPc : va_P E.1 vwCl ([(z_W E xa na ma mb ad tx ln nx ct f0 f1 g ga gb v).flatten] : List va_W).flatten H := zf_sub hP [0] rfl
  have hDc : va_D A ([(z_W E xa na ma mb ad tx ln nx ct f0 f1 g ga gb v).flatten] : List va_W).flatten := zf_subD hD [0] (by decide) rfl
  refine z_xmut (Sc := [(z_W E xa na ma mb ad tx ln nx ct f0 f1 g ga gb v).flatten]) (Sr := [[(ou, .inl (E.2 3, 1, .inr (.inl f)))]]) (W1 := [(z_W E xa na ma mb ad tx ln (nI ((m_n nx + 1) % 6)) (nI (if m_n ct < 6 then m_n ct + 1 else 6)) f0 f1 (m_calC g x) ga gb (va_up v (m_n nx) g)).flatten]) (vx_runV (As := [.int x]) (rest := [.int 0, .ref ou]) ⟨hx, hb, hml, hown, hts⟩ (c_X9_calibrate l E sa hl0 xa na ma mb ad tx ln nx ct f0 f1 g ga gb v hw x H.size) (cwV 1 hts gL_calibrate_X9_calibrate rfl rfl rfl (by decide +kernel) ⟨Nat.le_of_ble_eq_true rfl, Nat.le_of_ble_eq_true rfl⟩) ⟨zPE.blind, va_recv hK.1 hPc (ci := 8) (q0 := 0) rfl rfl, z_preE hK hT hZ hS (zf_free hD hS hA [0] rfl) hPc hDc⟩ rfl rfl hl.1 rfl (lv_room (Nat.le_of_ble_eq_true rfl)) dL_calibrate_4 ⟨Nat.le_of_ble_eq_true rfl, Nat.le_of_ble_eq_true rfl⟩) hP hD hS hA [0] [1] rfl rfl (by decide) (by decide) (fun Ex ce q9 H locs hps hP hD hS hce hcv hcl => ?_) (fun H locs hph hP hD hS => ?_)
  · have hP : va_P E.1 vwCl ([[(ou, .inl (E.2 3, 1, .inr (.inl f)))], (z_W E xa na ma mb ad tx ln nx ct f0 f1 g ga gb v).flatten] : List va_W).flatten H := hP
    have hD : va_D A ([[(ou, .inl (E.2 3, 1, .inr (.inl f)))], (z_W E xa na ma mb ad tx ln nx ct f0 f1 g ga gb v).flatten] : List va_W).flatten := hD
    obtain ⟨eEx, hno⟩ := hps
    subst eEx
    refine vx_widen (k := 1) (n := 6) (by decide) (by decide) ?_
    refine vx_catch (own := RL) (name := zIA) hown [] ⟨0, 9, 12, 13⟩ [] (htab.trans rfl) (fun z hz => nomatch hz) (by decide) (by decide) (hts (.classLink RL 13 "java/lang/IllegalArgumentException") (by decide +kernel)) hT.cA hce hcv hcl ?_
    refine W.eq (g2 := F0 Mi 12 ls [.ref q9]) rfl ?_
    refine lv_astore_n (lv' := [(3, .ref q9), (0, .ref (xa 0)), (1, .int x), (2, .ref ou)]) hx hb dL_calibrate_12 rfl hl (by decide) rfl (fun ls hl => ?_)
    refine lv_iconst (v := 1) hx hb dL_calibrate_13 (by decide) ?_
    have hP : va_P E.1 vwCl ([(z_W E xa na ma mb ad tx ln nx ct f0 f1 g ga gb v).flatten, [(ou, .inl (E.2 3, 1, .inr (.inl f)))]] : List va_W).flatten H := zf_sub hP [1, 0] rfl
    have hD : va_D A ([(z_W E xa na ma mb ad tx ln nx ct f0 f1 g ga gb v).flatten, [(ou, .inl (E.2 3, 1, .inr (.inl f)))]] : List va_W).flatten := zf_subD hD [1, 0] (by decide) rfl
    exact W.iret (v := 1) hx hb hr (z_end hP hD hS rfl) hS.2.2 dL_calibrate_14 hlocks
  have hP : va_P E.1 vwCl ([[(ou, .inl (E.2 3, 1, .inr (.inl f)))], (z_W E xa na ma mb ad tx ln (nI ((m_n nx + 1) % 6)) (nI (if m_n ct < 6 then m_n ct + 1 else 6)) f0 f1 (m_calC g x) ga gb (va_up v (m_n nx) g)).flatten] : List va_W).flatten H := hP
  have hD : va_D A ([[(ou, .inl (E.2 3, 1, .inr (.inl f)))], (z_W E xa na ma mb ad tx ln (nI ((m_n nx + 1) % 6)) (nI (if m_n ct < 6 then m_n ct + 1 else 6)) f0 f1 (m_calC g x) ga gb (va_up v (m_n nx) g)).flatten] : List va_W).flatten := hD
  refine W.widen (k := 1) (n := 6) (by decide) (by decide) ?_
  refine W.eq (g2 := F0 Mi 7 ls [.int (m_std (g 0) - m_std (g 1) - x), .int 0, .ref ou]) rfl ?_
  exact absurd hph hpq

set_option maxHeartbeats 4000000 in
set_option maxRecDepth 100000 in
theorem c_L_setThreshold_y (l : Launch) (E : zE) (sa : Nat → Nat) (hl0 : l.stackTraces = false) (ou : Nat) (f : Nat → Int64) (xa na ma mb : Nat → Nat) (ad : Nat → Nat → Nat) (tx : Nat → Int32) (ln nx ct f0 f1 : Int32) (g ga gb : Nat → Int32) (v : Nat → Nat → Int32) (hw : z_wk ln nx ct f0 f1 g ga gb v) (x : Int32) (hpq : 10 ≤ x ∧ x ≤ 500) : zMT l yL_setThreshold wsL_setThreshold ({ frames := 8, cells := 1, slots := 6, locals := 134 }) E sa [.ref (xa 0), .int x, .ref ou] ([(z_W E xa na ma mb ad tx ln nx ct f0 f1 g ga gb v).flatten, [(ou, .inl (E.2 3, 1, .inr (.inl f)))]] : List va_W).flatten (some (.int 0)) ([(z_W E xa na ma mb ad tx ln (nI ((m_n nx + 1) % 6)) (nI (if m_n ct < 6 then m_n ct + 1 else 6)) f0 f1 (upd g 10 x) ga gb (va_up v (m_n nx) g)).flatten, [(ou, .inl (E.2 3, 1, .inr (.inl (vp_updL f 0 ((g 10)).toInt64))))]] : List va_W).flatten 1 6 := by
  refine z_startw (cc := cL_setThreshold) (maxL := 4) (ret := (some .int)) (hh := [(0, 9, 12, 13)]) (by decide) rfl (Nat.le_of_ble_eq_true rfl) ?_
  intro Pg En s Mi below meth Cd A hx hb hr hts hown hlocks hml htab hA hT hZ hN H hH hP hK hD hS ls hl
  have hl : lv_has ls 4 [(0, .ref (xa 0)), (1, .int x), (2, .ref ou)] := hl
  refine lv_aload_n hx hb dL_setThreshold_0 rfl (lv_at hl 2 rfl) ?_
  refine lv_iconst (v := 0) hx hb dL_setThreshold_1 (by decide) ?_
  refine lv_aload_n hx hb dL_setThreshold_2 rfl (lv_at hl 0 rfl) ?_
  refine lv_iload_n hx hb dL_setThreshold_3 rfl (lv_at hl 1 rfl) ?_
  have hPc : va_P E.1 vwCl ([(z_W E xa na ma mb ad tx ln nx ct f0 f1 g ga gb v).flatten] : List va_W).flatten H := zf_sub hP [0] rfl
  have hDc : va_D A ([(z_W E xa na ma mb ad tx ln nx ct f0 f1 g ga gb v).flatten] : List va_W).flatten := zf_subD hD [0] (by decide) rfl
  refine z_xmut (Sc := [(z_W E xa na ma mb ad tx ln nx ct f0 f1 g ga gb v).flatten]) (Sr := [[(ou, .inl (E.2 3, 1, .inr (.inl f)))]]) (W1 := [(z_W E xa na ma mb ad tx ln (nI ((m_n nx + 1) % 6)) (nI (if m_n ct < 6 then m_n ct + 1 else 6)) f0 f1 (upd g 10 x) ga gb (va_up v (m_n nx) g)).flatten]) (vx_runV (As := [.int x]) (rest := [.int 0, .ref ou]) ⟨hx, hb, hml, hown, hts⟩ (c_X9_setThreshold l E sa hl0 xa na ma mb ad tx ln nx ct f0 f1 g ga gb v hw x H.size) (cwV 1 hts gL_setThreshold_X9_setThreshold rfl rfl rfl (by decide +kernel) ⟨Nat.le_of_ble_eq_true rfl, Nat.le_of_ble_eq_true rfl⟩) ⟨zPE.blind, va_recv hK.1 hPc (ci := 8) (q0 := 0) rfl rfl, z_preE hK hT hZ hS (zf_free hD hS hA [0] rfl) hPc hDc⟩ rfl rfl hl.1 rfl (lv_room (Nat.le_of_ble_eq_true rfl)) dL_setThreshold_4 ⟨Nat.le_of_ble_eq_true rfl, Nat.le_of_ble_eq_true rfl⟩) hP hD hS hA [0] [1] rfl rfl (by decide) (by decide) (fun Ex ce q9 H locs hps hP hD hS hce hcv hcl => ?_) (fun H locs hph hP hD hS => ?_)
  · have hP : va_P E.1 vwCl ([[(ou, .inl (E.2 3, 1, .inr (.inl f)))], (z_W E xa na ma mb ad tx ln nx ct f0 f1 g ga gb v).flatten] : List va_W).flatten H := hP
    have hD : va_D A ([[(ou, .inl (E.2 3, 1, .inr (.inl f)))], (z_W E xa na ma mb ad tx ln nx ct f0 f1 g ga gb v).flatten] : List va_W).flatten := hD
    exact absurd hpq hps.2
  have hP : va_P E.1 vwCl ([[(ou, .inl (E.2 3, 1, .inr (.inl f)))], (z_W E xa na ma mb ad tx ln (nI ((m_n nx + 1) % 6)) (nI (if m_n ct < 6 then m_n ct + 1 else 6)) f0 f1 (upd g 10 x) ga gb (va_up v (m_n nx) g)).flatten] : List va_W).flatten H := hP
  have hD : va_D A ([[(ou, .inl (E.2 3, 1, .inr (.inl f)))], (z_W E xa na ma mb ad tx ln (nI ((m_n nx + 1) % 6)) (nI (if m_n ct < 6 then m_n ct + 1 else 6)) f0 f1 (upd g 10 x) ga gb (va_up v (m_n nx) g)).flatten] : List va_W).flatten := hD
  refine W.widen (k := 1) (n := 6) (by decide) (by decide) ?_
  refine W.eq (g2 := F0 Mi 7 ls [.int (g 10), .int 0, .ref ou]) rfl ?_
  refine lv_i2l hx hb dL_setThreshold_7 rfl ?_
  refine z_last (k := 0) hx hb hK.1 hP hD hS 0 rfl rfl (by decide) (by decide) dL_setThreshold_8 (fun H locs hP hD hS => ?_)
  have hP : va_P E.1 vwCl ([[(ou, .inl (E.2 3, 1, .inr (.inl (vp_updL f 0 (((g 10)).toInt64)))))], (z_W E xa na ma mb ad tx ln (nI ((m_n nx + 1) % 6)) (nI (if m_n ct < 6 then m_n ct + 1 else 6)) f0 f1 (upd g 10 x) ga gb (va_up v (m_n nx) g)).flatten] : List va_W).flatten H := hP
  have hD : va_D A ([[(ou, .inl (E.2 3, 1, .inr (.inl (vp_updL f 0 (((g 10)).toInt64)))))], (z_W E xa na ma mb ad tx ln (nI ((m_n nx + 1) % 6)) (nI (if m_n ct < 6 then m_n ct + 1 else 6)) f0 f1 (upd g 10 x) ga gb (va_up v (m_n nx) g)).flatten] : List va_W).flatten := hD
  refine lv_goto (tgt := 15) hx hb dL_setThreshold_9 (by decide) ?_
  refine lv_iconst (v := 0) hx hb dL_setThreshold_15 (by decide) ?_
  have hP : va_P E.1 vwCl ([(z_W E xa na ma mb ad tx ln (nI ((m_n nx + 1) % 6)) (nI (if m_n ct < 6 then m_n ct + 1 else 6)) f0 f1 (upd g 10 x) ga gb (va_up v (m_n nx) g)).flatten, [(ou, .inl (E.2 3, 1, .inr (.inl (vp_updL f 0 (((g 10)).toInt64)))))]] : List va_W).flatten H := zf_sub hP [1, 0] rfl
  have hD : va_D A ([(z_W E xa na ma mb ad tx ln (nI ((m_n nx + 1) % 6)) (nI (if m_n ct < 6 then m_n ct + 1 else 6)) f0 f1 (upd g 10 x) ga gb (va_up v (m_n nx) g)).flatten, [(ou, .inl (E.2 3, 1, .inr (.inl (vp_updL f 0 (((g 10)).toInt64)))))]] : List va_W).flatten := zf_subD hD [1, 0] (by decide) rfl
  exact W.iret (v := 0) hx hb hr (z_end hP hD hS rfl) hS.2.2 dL_setThreshold_16 hlocks

set_option maxHeartbeats 4000000 in
set_option maxRecDepth 100000 in
theorem c_L_setThreshold_n (l : Launch) (E : zE) (sa : Nat → Nat) (hl0 : l.stackTraces = false) (ou : Nat) (f : Nat → Int64) (xa na ma mb : Nat → Nat) (ad : Nat → Nat → Nat) (tx : Nat → Int32) (ln nx ct f0 f1 : Int32) (g ga gb : Nat → Int32) (v : Nat → Nat → Int32) (hw : z_wk ln nx ct f0 f1 g ga gb v) (x : Int32) (hpq : ¬ (10 ≤ x ∧ x ≤ 500)) : zMT l yL_setThreshold wsL_setThreshold ({ frames := 8, cells := 1, slots := 6, locals := 134 }) E sa [.ref (xa 0), .int x, .ref ou] ([(z_W E xa na ma mb ad tx ln nx ct f0 f1 g ga gb v).flatten, [(ou, .inl (E.2 3, 1, .inr (.inl f)))]] : List va_W).flatten (some (.int 1)) ([(z_W E xa na ma mb ad tx ln nx ct f0 f1 g ga gb v).flatten, [(ou, .inl (E.2 3, 1, .inr (.inl f)))]] : List va_W).flatten 1 6 := by
  refine z_startw (cc := cL_setThreshold) (maxL := 4) (ret := (some .int)) (hh := [(0, 9, 12, 13)]) (by decide) rfl (Nat.le_of_ble_eq_true rfl) ?_
  intro Pg En s Mi below meth Cd A hx hb hr hts hown hlocks hml htab hA hT hZ hN H hH hP hK hD hS ls hl
  have hl : lv_has ls 4 [(0, .ref (xa 0)), (1, .int x), (2, .ref ou)] := hl
  refine lv_aload_n hx hb dL_setThreshold_0 rfl (lv_at hl 2 rfl) ?_
  refine lv_iconst (v := 0) hx hb dL_setThreshold_1 (by decide) ?_
  refine lv_aload_n hx hb dL_setThreshold_2 rfl (lv_at hl 0 rfl) ?_
  refine lv_iload_n hx hb dL_setThreshold_3 rfl (lv_at hl 1 rfl) ?_
  have hPc : va_P E.1 vwCl ([(z_W E xa na ma mb ad tx ln nx ct f0 f1 g ga gb v).flatten] : List va_W).flatten H := zf_sub hP [0] rfl
  have hDc : va_D A ([(z_W E xa na ma mb ad tx ln nx ct f0 f1 g ga gb v).flatten] : List va_W).flatten := zf_subD hD [0] (by decide) rfl
  refine z_xmut (Sc := [(z_W E xa na ma mb ad tx ln nx ct f0 f1 g ga gb v).flatten]) (Sr := [[(ou, .inl (E.2 3, 1, .inr (.inl f)))]]) (W1 := [(z_W E xa na ma mb ad tx ln (nI ((m_n nx + 1) % 6)) (nI (if m_n ct < 6 then m_n ct + 1 else 6)) f0 f1 (upd g 10 x) ga gb (va_up v (m_n nx) g)).flatten]) (vx_runV (As := [.int x]) (rest := [.int 0, .ref ou]) ⟨hx, hb, hml, hown, hts⟩ (c_X9_setThreshold l E sa hl0 xa na ma mb ad tx ln nx ct f0 f1 g ga gb v hw x H.size) (cwV 1 hts gL_setThreshold_X9_setThreshold rfl rfl rfl (by decide +kernel) ⟨Nat.le_of_ble_eq_true rfl, Nat.le_of_ble_eq_true rfl⟩) ⟨zPE.blind, va_recv hK.1 hPc (ci := 8) (q0 := 0) rfl rfl, z_preE hK hT hZ hS (zf_free hD hS hA [0] rfl) hPc hDc⟩ rfl rfl hl.1 rfl (lv_room (Nat.le_of_ble_eq_true rfl)) dL_setThreshold_4 ⟨Nat.le_of_ble_eq_true rfl, Nat.le_of_ble_eq_true rfl⟩) hP hD hS hA [0] [1] rfl rfl (by decide) (by decide) (fun Ex ce q9 H locs hps hP hD hS hce hcv hcl => ?_) (fun H locs hph hP hD hS => ?_)
  · have hP : va_P E.1 vwCl ([[(ou, .inl (E.2 3, 1, .inr (.inl f)))], (z_W E xa na ma mb ad tx ln nx ct f0 f1 g ga gb v).flatten] : List va_W).flatten H := hP
    have hD : va_D A ([[(ou, .inl (E.2 3, 1, .inr (.inl f)))], (z_W E xa na ma mb ad tx ln nx ct f0 f1 g ga gb v).flatten] : List va_W).flatten := hD
    obtain ⟨eEx, hno⟩ := hps
    subst eEx
    refine vx_widen (k := 1) (n := 6) (by decide) (by decide) ?_
    refine vx_catch (own := RL) (name := zIA) hown [] ⟨0, 9, 12, 13⟩ [] (htab.trans rfl) (fun z hz => nomatch hz) (by decide) (by decide) (hts (.classLink RL 13 "java/lang/IllegalArgumentException") (by decide +kernel)) hT.cA hce hcv hcl ?_
    refine W.eq (g2 := F0 Mi 12 ls [.ref q9]) rfl ?_
    refine lv_astore_n (lv' := [(3, .ref q9), (0, .ref (xa 0)), (1, .int x), (2, .ref ou)]) hx hb dL_setThreshold_12 rfl hl (by decide) rfl (fun ls hl => ?_)
    refine lv_iconst (v := 1) hx hb dL_setThreshold_13 (by decide) ?_
    have hP : va_P E.1 vwCl ([(z_W E xa na ma mb ad tx ln nx ct f0 f1 g ga gb v).flatten, [(ou, .inl (E.2 3, 1, .inr (.inl f)))]] : List va_W).flatten H := zf_sub hP [1, 0] rfl
    have hD : va_D A ([(z_W E xa na ma mb ad tx ln nx ct f0 f1 g ga gb v).flatten, [(ou, .inl (E.2 3, 1, .inr (.inl f)))]] : List va_W).flatten := zf_subD hD [1, 0] (by decide) rfl
    exact W.iret (v := 1) hx hb hr (z_end hP hD hS rfl) hS.2.2 dL_setThreshold_14 hlocks
  have hP : va_P E.1 vwCl ([[(ou, .inl (E.2 3, 1, .inr (.inl f)))], (z_W E xa na ma mb ad tx ln (nI ((m_n nx + 1) % 6)) (nI (if m_n ct < 6 then m_n ct + 1 else 6)) f0 f1 (upd g 10 x) ga gb (va_up v (m_n nx) g)).flatten] : List va_W).flatten H := hP
  have hD : va_D A ([[(ou, .inl (E.2 3, 1, .inr (.inl f)))], (z_W E xa na ma mb ad tx ln (nI ((m_n nx + 1) % 6)) (nI (if m_n ct < 6 then m_n ct + 1 else 6)) f0 f1 (upd g 10 x) ga gb (va_up v (m_n nx) g)).flatten] : List va_W).flatten := hD
  refine W.widen (k := 1) (n := 6) (by decide) (by decide) ?_
  refine W.eq (g2 := F0 Mi 7 ls [.int (g 10), .int 0, .ref ou]) rfl ?_
  exact absurd hph hpq

set_option maxHeartbeats 4000000 in
set_option maxRecDepth 100000 in
theorem c_L_markTime_y (l : Launch) (E : zE) (sa : Nat → Nat) (hl0 : l.stackTraces = false) (ou : Nat) (f : Nat → Int64) (xa na ma mb : Nat → Nat) (ad : Nat → Nat → Nat) (tx : Nat → Int32) (ln nx ct f0 f1 : Int32) (g ga gb : Nat → Int32) (v : Nat → Nat → Int32) (hw : z_wk ln nx ct f0 f1 g ga gb v) (x : Int32) (hpq : 0 ≤ x ∧ x < g 75) : zMT l yL_markTime wsL_markTime ({ frames := 8, cells := 1, slots := 6, locals := 132 }) E sa [.ref (xa 0), .int x, .ref ou] ([(z_W E xa na ma mb ad tx ln nx ct f0 f1 g ga gb v).flatten, [(ou, .inl (E.2 3, 1, .inr (.inl f)))]] : List va_W).flatten (some (.int 0)) ([(z_W E xa na ma mb ad tx ln nx ct f0 f1 g ga gb v).flatten, [(ou, .inl (E.2 3, 1, .inr (.inl (vp_updL f 0 ((m_el 10 (z_tr 10 (fun k => g (4 * k + 76))) x)).toInt64))))]] : List va_W).flatten 1 6 := by
  refine z_startw (cc := cL_markTime) (maxL := 4) (ret := (some .int)) (hh := [(0, 9, 12, 31)]) (by decide) rfl (Nat.le_of_ble_eq_true rfl) ?_
  intro Pg En s Mi below meth Cd A hx hb hr hts hown hlocks hml htab hA hT hZ hN H hH hP hK hD hS ls hl
  have hl : lv_has ls 4 [(0, .ref (xa 0)), (1, .int x), (2, .ref ou)] := hl
  refine lv_aload_n hx hb dL_markTime_0 rfl (lv_at hl 2 rfl) ?_
  refine lv_iconst (v := 0) hx hb dL_markTime_1 (by decide) ?_
  refine lv_aload_n hx hb dL_markTime_2 rfl (lv_at hl 0 rfl) ?_
  refine lv_iload_n hx hb dL_markTime_3 rfl (lv_at hl 1 rfl) ?_
  have hPc : va_P E.1 vwCl ([(z_W E xa na ma mb ad tx ln nx ct f0 f1 g ga gb v).flatten] : List va_W).flatten H := zf_sub hP [0] rfl
  have hDc : va_D A ([(z_W E xa na ma mb ad tx ln nx ct f0 f1 g ga gb v).flatten] : List va_W).flatten := zf_subD hD [0] (by decide) rfl
  refine z_xmut (Sc := [(z_W E xa na ma mb ad tx ln nx ct f0 f1 g ga gb v).flatten]) (Sr := [[(ou, .inl (E.2 3, 1, .inr (.inl f)))]]) (W1 := [(z_W E xa na ma mb ad tx ln nx ct f0 f1 g ga gb v).flatten]) (vx_runV (As := [.int x]) (rest := [.int 0, .ref ou]) ⟨hx, hb, hml, hown, hts⟩ (c_X9_markTime l E sa hl0 xa na ma mb ad tx ln nx ct f0 f1 g ga gb v hw x H.size) (cwV 1 hts gL_markTime_X9_markTime rfl rfl rfl (by decide +kernel) ⟨Nat.le_of_ble_eq_true rfl, Nat.le_of_ble_eq_true rfl⟩) ⟨zPE.blind, va_recv hK.1 hPc (ci := 8) (q0 := 0) rfl rfl, z_preE hK hT hZ hS (zf_free hD hS hA [0] rfl) hPc hDc⟩ rfl rfl hl.1 rfl (lv_room (Nat.le_of_ble_eq_true rfl)) dL_markTime_4 ⟨Nat.le_of_ble_eq_true rfl, Nat.le_of_ble_eq_true rfl⟩) hP hD hS hA [0] [1] rfl rfl (by decide) (by decide) (fun Ex ce q9 H locs hps hP hD hS hce hcv hcl => ?_) (fun H locs hph hP hD hS => ?_)
  · have hP : va_P E.1 vwCl ([[(ou, .inl (E.2 3, 1, .inr (.inl f)))], (z_W E xa na ma mb ad tx ln nx ct f0 f1 g ga gb v).flatten] : List va_W).flatten H := hP
    have hD : va_D A ([[(ou, .inl (E.2 3, 1, .inr (.inl f)))], (z_W E xa na ma mb ad tx ln nx ct f0 f1 g ga gb v).flatten] : List va_W).flatten := hD
    exact absurd hpq hps.2
  have hP : va_P E.1 vwCl ([[(ou, .inl (E.2 3, 1, .inr (.inl f)))], (z_W E xa na ma mb ad tx ln nx ct f0 f1 g ga gb v).flatten] : List va_W).flatten H := hP
  have hD : va_D A ([[(ou, .inl (E.2 3, 1, .inr (.inl f)))], (z_W E xa na ma mb ad tx ln nx ct f0 f1 g ga gb v).flatten] : List va_W).flatten := hD
  refine W.widen (k := 1) (n := 6) (by decide) (by decide) ?_
  refine W.eq (g2 := F0 Mi 7 ls [.int (m_el 10 (z_tr 10 (fun k => g (4 * k + 76))) x), .int 0, .ref ou]) rfl ?_
  refine lv_i2l hx hb dL_markTime_7 rfl ?_
  refine z_last (k := 0) hx hb hK.1 hP hD hS 0 rfl rfl (by decide) (by decide) dL_markTime_8 (fun H locs hP hD hS => ?_)
  have hP : va_P E.1 vwCl ([[(ou, .inl (E.2 3, 1, .inr (.inl (vp_updL f 0 (((m_el 10 (z_tr 10 (fun k => g (4 * k + 76))) x)).toInt64)))))], (z_W E xa na ma mb ad tx ln nx ct f0 f1 g ga gb v).flatten] : List va_W).flatten H := hP
  have hD : va_D A ([[(ou, .inl (E.2 3, 1, .inr (.inl (vp_updL f 0 (((m_el 10 (z_tr 10 (fun k => g (4 * k + 76))) x)).toInt64)))))], (z_W E xa na ma mb ad tx ln nx ct f0 f1 g ga gb v).flatten] : List va_W).flatten := hD
  refine lv_goto (tgt := 15) hx hb dL_markTime_9 (by decide) ?_
  refine lv_iconst (v := 0) hx hb dL_markTime_15 (by decide) ?_
  have hP : va_P E.1 vwCl ([(z_W E xa na ma mb ad tx ln nx ct f0 f1 g ga gb v).flatten, [(ou, .inl (E.2 3, 1, .inr (.inl (vp_updL f 0 (((m_el 10 (z_tr 10 (fun k => g (4 * k + 76))) x)).toInt64)))))]] : List va_W).flatten H := zf_sub hP [1, 0] rfl
  have hD : va_D A ([(z_W E xa na ma mb ad tx ln nx ct f0 f1 g ga gb v).flatten, [(ou, .inl (E.2 3, 1, .inr (.inl (vp_updL f 0 (((m_el 10 (z_tr 10 (fun k => g (4 * k + 76))) x)).toInt64)))))]] : List va_W).flatten := zf_subD hD [1, 0] (by decide) rfl
  exact W.iret (v := 0) hx hb hr (z_end hP hD hS rfl) hS.2.2 dL_markTime_16 hlocks

set_option maxHeartbeats 4000000 in
set_option maxRecDepth 100000 in
theorem c_L_markTime_n (l : Launch) (E : zE) (sa : Nat → Nat) (hl0 : l.stackTraces = false) (ou : Nat) (f : Nat → Int64) (xa na ma mb : Nat → Nat) (ad : Nat → Nat → Nat) (tx : Nat → Int32) (ln nx ct f0 f1 : Int32) (g ga gb : Nat → Int32) (v : Nat → Nat → Int32) (hw : z_wk ln nx ct f0 f1 g ga gb v) (x : Int32) (hpq : ¬ (0 ≤ x ∧ x < g 75)) : zMT l yL_markTime wsL_markTime ({ frames := 8, cells := 1, slots := 6, locals := 132 }) E sa [.ref (xa 0), .int x, .ref ou] ([(z_W E xa na ma mb ad tx ln nx ct f0 f1 g ga gb v).flatten, [(ou, .inl (E.2 3, 1, .inr (.inl f)))]] : List va_W).flatten (some (.int 1)) ([(z_W E xa na ma mb ad tx ln nx ct f0 f1 g ga gb v).flatten, [(ou, .inl (E.2 3, 1, .inr (.inl f)))]] : List va_W).flatten 1 6 := by
  refine z_startw (cc := cL_markTime) (maxL := 4) (ret := (some .int)) (hh := [(0, 9, 12, 31)]) (by decide) rfl (Nat.le_of_ble_eq_true rfl) ?_
  intro Pg En s Mi below meth Cd A hx hb hr hts hown hlocks hml htab hA hT hZ hN H hH hP hK hD hS ls hl
  have hl : lv_has ls 4 [(0, .ref (xa 0)), (1, .int x), (2, .ref ou)] := hl
  refine lv_aload_n hx hb dL_markTime_0 rfl (lv_at hl 2 rfl) ?_
  refine lv_iconst (v := 0) hx hb dL_markTime_1 (by decide) ?_
  refine lv_aload_n hx hb dL_markTime_2 rfl (lv_at hl 0 rfl) ?_
  refine lv_iload_n hx hb dL_markTime_3 rfl (lv_at hl 1 rfl) ?_
  have hPc : va_P E.1 vwCl ([(z_W E xa na ma mb ad tx ln nx ct f0 f1 g ga gb v).flatten] : List va_W).flatten H := zf_sub hP [0] rfl
  have hDc : va_D A ([(z_W E xa na ma mb ad tx ln nx ct f0 f1 g ga gb v).flatten] : List va_W).flatten := zf_subD hD [0] (by decide) rfl
  refine z_xmut (Sc := [(z_W E xa na ma mb ad tx ln nx ct f0 f1 g ga gb v).flatten]) (Sr := [[(ou, .inl (E.2 3, 1, .inr (.inl f)))]]) (W1 := [(z_W E xa na ma mb ad tx ln nx ct f0 f1 g ga gb v).flatten]) (vx_runV (As := [.int x]) (rest := [.int 0, .ref ou]) ⟨hx, hb, hml, hown, hts⟩ (c_X9_markTime l E sa hl0 xa na ma mb ad tx ln nx ct f0 f1 g ga gb v hw x H.size) (cwV 1 hts gL_markTime_X9_markTime rfl rfl rfl (by decide +kernel) ⟨Nat.le_of_ble_eq_true rfl, Nat.le_of_ble_eq_true rfl⟩) ⟨zPE.blind, va_recv hK.1 hPc (ci := 8) (q0 := 0) rfl rfl, z_preE hK hT hZ hS (zf_free hD hS hA [0] rfl) hPc hDc⟩ rfl rfl hl.1 rfl (lv_room (Nat.le_of_ble_eq_true rfl)) dL_markTime_4 ⟨Nat.le_of_ble_eq_true rfl, Nat.le_of_ble_eq_true rfl⟩) hP hD hS hA [0] [1] rfl rfl (by decide) (by decide) (fun Ex ce q9 H locs hps hP hD hS hce hcv hcl => ?_) (fun H locs hph hP hD hS => ?_)
  · have hP : va_P E.1 vwCl ([[(ou, .inl (E.2 3, 1, .inr (.inl f)))], (z_W E xa na ma mb ad tx ln nx ct f0 f1 g ga gb v).flatten] : List va_W).flatten H := hP
    have hD : va_D A ([[(ou, .inl (E.2 3, 1, .inr (.inl f)))], (z_W E xa na ma mb ad tx ln nx ct f0 f1 g ga gb v).flatten] : List va_W).flatten := hD
    obtain ⟨eEx, hno⟩ := hps
    subst eEx
    refine vx_widen (k := 1) (n := 6) (by decide) (by decide) ?_
    refine vx_catch (own := RL) (name := zIO) hown [] ⟨0, 9, 12, 31⟩ [] (htab.trans rfl) (fun z hz => nomatch hz) (by decide) (by decide) (hts (.classLink RL 31 "java/lang/IndexOutOfBoundsException") (by decide +kernel)) hT.cO hce hcv hcl ?_
    refine W.eq (g2 := F0 Mi 12 ls [.ref q9]) rfl ?_
    refine lv_astore_n (lv' := [(3, .ref q9), (0, .ref (xa 0)), (1, .int x), (2, .ref ou)]) hx hb dL_markTime_12 rfl hl (by decide) rfl (fun ls hl => ?_)
    refine lv_iconst (v := 1) hx hb dL_markTime_13 (by decide) ?_
    have hP : va_P E.1 vwCl ([(z_W E xa na ma mb ad tx ln nx ct f0 f1 g ga gb v).flatten, [(ou, .inl (E.2 3, 1, .inr (.inl f)))]] : List va_W).flatten H := zf_sub hP [1, 0] rfl
    have hD : va_D A ([(z_W E xa na ma mb ad tx ln nx ct f0 f1 g ga gb v).flatten, [(ou, .inl (E.2 3, 1, .inr (.inl f)))]] : List va_W).flatten := zf_subD hD [1, 0] (by decide) rfl
    exact W.iret (v := 1) hx hb hr (z_end hP hD hS rfl) hS.2.2 dL_markTime_14 hlocks
  have hP : va_P E.1 vwCl ([[(ou, .inl (E.2 3, 1, .inr (.inl f)))], (z_W E xa na ma mb ad tx ln nx ct f0 f1 g ga gb v).flatten] : List va_W).flatten H := hP
  have hD : va_D A ([[(ou, .inl (E.2 3, 1, .inr (.inl f)))], (z_W E xa na ma mb ad tx ln nx ct f0 f1 g ga gb v).flatten] : List va_W).flatten := hD
  refine W.widen (k := 1) (n := 6) (by decide) (by decide) ?_
  refine W.eq (g2 := F0 Mi 7 ls [.int (m_el 10 (z_tr 10 (fun k => g (4 * k + 76))) x), .int 0, .ref ou]) rfl ?_
  exact absurd hph hpq

set_option maxHeartbeats 4000000 in
set_option maxRecDepth 100000 in
theorem c_L_markAltitude_y (l : Launch) (E : zE) (sa : Nat → Nat) (hl0 : l.stackTraces = false) (ou : Nat) (f : Nat → Int64) (xa na ma mb : Nat → Nat) (ad : Nat → Nat → Nat) (tx : Nat → Int32) (ln nx ct f0 f1 : Int32) (g ga gb : Nat → Int32) (v : Nat → Nat → Int32) (hw : z_wk ln nx ct f0 f1 g ga gb v) (x : Int32) (hpq : 0 ≤ x ∧ x < g 75) : zMT l yL_markAltitude wsL_markAltitude ({ frames := 8, cells := 1, slots := 6, locals := 132 }) E sa [.ref (xa 0), .int x, .ref ou] ([(z_W E xa na ma mb ad tx ln nx ct f0 f1 g ga gb v).flatten, [(ou, .inl (E.2 3, 1, .inr (.inl f)))]] : List va_W).flatten (some (.int 0)) ([(z_W E xa na ma mb ad tx ln nx ct f0 f1 g ga gb v).flatten, [(ou, .inl (E.2 3, 1, .inr (.inl (vp_updL f 0 ((m_el 10 (z_tr 10 (fun k => g (4 * k + 77))) x)).toInt64))))]] : List va_W).flatten 1 6 := by
  refine z_startw (cc := cL_markAltitude) (maxL := 4) (ret := (some .int)) (hh := [(0, 9, 12, 31)]) (by decide) rfl (Nat.le_of_ble_eq_true rfl) ?_
  intro Pg En s Mi below meth Cd A hx hb hr hts hown hlocks hml htab hA hT hZ hN H hH hP hK hD hS ls hl
  have hl : lv_has ls 4 [(0, .ref (xa 0)), (1, .int x), (2, .ref ou)] := hl
  refine lv_aload_n hx hb dL_markAltitude_0 rfl (lv_at hl 2 rfl) ?_
  refine lv_iconst (v := 0) hx hb dL_markAltitude_1 (by decide) ?_
  refine lv_aload_n hx hb dL_markAltitude_2 rfl (lv_at hl 0 rfl) ?_
  refine lv_iload_n hx hb dL_markAltitude_3 rfl (lv_at hl 1 rfl) ?_
  have hPc : va_P E.1 vwCl ([(z_W E xa na ma mb ad tx ln nx ct f0 f1 g ga gb v).flatten] : List va_W).flatten H := zf_sub hP [0] rfl
  have hDc : va_D A ([(z_W E xa na ma mb ad tx ln nx ct f0 f1 g ga gb v).flatten] : List va_W).flatten := zf_subD hD [0] (by decide) rfl
  refine z_xmut (Sc := [(z_W E xa na ma mb ad tx ln nx ct f0 f1 g ga gb v).flatten]) (Sr := [[(ou, .inl (E.2 3, 1, .inr (.inl f)))]]) (W1 := [(z_W E xa na ma mb ad tx ln nx ct f0 f1 g ga gb v).flatten]) (vx_runV (As := [.int x]) (rest := [.int 0, .ref ou]) ⟨hx, hb, hml, hown, hts⟩ (c_X9_markAltitude l E sa hl0 xa na ma mb ad tx ln nx ct f0 f1 g ga gb v hw x H.size) (cwV 1 hts gL_markAltitude_X9_markAltitude rfl rfl rfl (by decide +kernel) ⟨Nat.le_of_ble_eq_true rfl, Nat.le_of_ble_eq_true rfl⟩) ⟨zPE.blind, va_recv hK.1 hPc (ci := 8) (q0 := 0) rfl rfl, z_preE hK hT hZ hS (zf_free hD hS hA [0] rfl) hPc hDc⟩ rfl rfl hl.1 rfl (lv_room (Nat.le_of_ble_eq_true rfl)) dL_markAltitude_4 ⟨Nat.le_of_ble_eq_true rfl, Nat.le_of_ble_eq_true rfl⟩) hP hD hS hA [0] [1] rfl rfl (by decide) (by decide) (fun Ex ce q9 H locs hps hP hD hS hce hcv hcl => ?_) (fun H locs hph hP hD hS => ?_)
  · have hP : va_P E.1 vwCl ([[(ou, .inl (E.2 3, 1, .inr (.inl f)))], (z_W E xa na ma mb ad tx ln nx ct f0 f1 g ga gb v).flatten] : List va_W).flatten H := hP
    have hD : va_D A ([[(ou, .inl (E.2 3, 1, .inr (.inl f)))], (z_W E xa na ma mb ad tx ln nx ct f0 f1 g ga gb v).flatten] : List va_W).flatten := hD
    exact absurd hpq hps.2
  have hP : va_P E.1 vwCl ([[(ou, .inl (E.2 3, 1, .inr (.inl f)))], (z_W E xa na ma mb ad tx ln nx ct f0 f1 g ga gb v).flatten] : List va_W).flatten H := hP
  have hD : va_D A ([[(ou, .inl (E.2 3, 1, .inr (.inl f)))], (z_W E xa na ma mb ad tx ln nx ct f0 f1 g ga gb v).flatten] : List va_W).flatten := hD
  refine W.widen (k := 1) (n := 6) (by decide) (by decide) ?_
  refine W.eq (g2 := F0 Mi 7 ls [.int (m_el 10 (z_tr 10 (fun k => g (4 * k + 77))) x), .int 0, .ref ou]) rfl ?_
  refine lv_i2l hx hb dL_markAltitude_7 rfl ?_
  refine z_last (k := 0) hx hb hK.1 hP hD hS 0 rfl rfl (by decide) (by decide) dL_markAltitude_8 (fun H locs hP hD hS => ?_)
  have hP : va_P E.1 vwCl ([[(ou, .inl (E.2 3, 1, .inr (.inl (vp_updL f 0 (((m_el 10 (z_tr 10 (fun k => g (4 * k + 77))) x)).toInt64)))))], (z_W E xa na ma mb ad tx ln nx ct f0 f1 g ga gb v).flatten] : List va_W).flatten H := hP
  have hD : va_D A ([[(ou, .inl (E.2 3, 1, .inr (.inl (vp_updL f 0 (((m_el 10 (z_tr 10 (fun k => g (4 * k + 77))) x)).toInt64)))))], (z_W E xa na ma mb ad tx ln nx ct f0 f1 g ga gb v).flatten] : List va_W).flatten := hD
  refine lv_goto (tgt := 15) hx hb dL_markAltitude_9 (by decide) ?_
  refine lv_iconst (v := 0) hx hb dL_markAltitude_15 (by decide) ?_
  have hP : va_P E.1 vwCl ([(z_W E xa na ma mb ad tx ln nx ct f0 f1 g ga gb v).flatten, [(ou, .inl (E.2 3, 1, .inr (.inl (vp_updL f 0 (((m_el 10 (z_tr 10 (fun k => g (4 * k + 77))) x)).toInt64)))))]] : List va_W).flatten H := zf_sub hP [1, 0] rfl
  have hD : va_D A ([(z_W E xa na ma mb ad tx ln nx ct f0 f1 g ga gb v).flatten, [(ou, .inl (E.2 3, 1, .inr (.inl (vp_updL f 0 (((m_el 10 (z_tr 10 (fun k => g (4 * k + 77))) x)).toInt64)))))]] : List va_W).flatten := zf_subD hD [1, 0] (by decide) rfl
  exact W.iret (v := 0) hx hb hr (z_end hP hD hS rfl) hS.2.2 dL_markAltitude_16 hlocks

set_option maxHeartbeats 4000000 in
set_option maxRecDepth 100000 in
theorem c_L_markAltitude_n (l : Launch) (E : zE) (sa : Nat → Nat) (hl0 : l.stackTraces = false) (ou : Nat) (f : Nat → Int64) (xa na ma mb : Nat → Nat) (ad : Nat → Nat → Nat) (tx : Nat → Int32) (ln nx ct f0 f1 : Int32) (g ga gb : Nat → Int32) (v : Nat → Nat → Int32) (hw : z_wk ln nx ct f0 f1 g ga gb v) (x : Int32) (hpq : ¬ (0 ≤ x ∧ x < g 75)) : zMT l yL_markAltitude wsL_markAltitude ({ frames := 8, cells := 1, slots := 6, locals := 132 }) E sa [.ref (xa 0), .int x, .ref ou] ([(z_W E xa na ma mb ad tx ln nx ct f0 f1 g ga gb v).flatten, [(ou, .inl (E.2 3, 1, .inr (.inl f)))]] : List va_W).flatten (some (.int 1)) ([(z_W E xa na ma mb ad tx ln nx ct f0 f1 g ga gb v).flatten, [(ou, .inl (E.2 3, 1, .inr (.inl f)))]] : List va_W).flatten 1 6 := by
  refine z_startw (cc := cL_markAltitude) (maxL := 4) (ret := (some .int)) (hh := [(0, 9, 12, 31)]) (by decide) rfl (Nat.le_of_ble_eq_true rfl) ?_
  intro Pg En s Mi below meth Cd A hx hb hr hts hown hlocks hml htab hA hT hZ hN H hH hP hK hD hS ls hl
  have hl : lv_has ls 4 [(0, .ref (xa 0)), (1, .int x), (2, .ref ou)] := hl
  refine lv_aload_n hx hb dL_markAltitude_0 rfl (lv_at hl 2 rfl) ?_
  refine lv_iconst (v := 0) hx hb dL_markAltitude_1 (by decide) ?_
  refine lv_aload_n hx hb dL_markAltitude_2 rfl (lv_at hl 0 rfl) ?_
  refine lv_iload_n hx hb dL_markAltitude_3 rfl (lv_at hl 1 rfl) ?_
  have hPc : va_P E.1 vwCl ([(z_W E xa na ma mb ad tx ln nx ct f0 f1 g ga gb v).flatten] : List va_W).flatten H := zf_sub hP [0] rfl
  have hDc : va_D A ([(z_W E xa na ma mb ad tx ln nx ct f0 f1 g ga gb v).flatten] : List va_W).flatten := zf_subD hD [0] (by decide) rfl
  refine z_xmut (Sc := [(z_W E xa na ma mb ad tx ln nx ct f0 f1 g ga gb v).flatten]) (Sr := [[(ou, .inl (E.2 3, 1, .inr (.inl f)))]]) (W1 := [(z_W E xa na ma mb ad tx ln nx ct f0 f1 g ga gb v).flatten]) (vx_runV (As := [.int x]) (rest := [.int 0, .ref ou]) ⟨hx, hb, hml, hown, hts⟩ (c_X9_markAltitude l E sa hl0 xa na ma mb ad tx ln nx ct f0 f1 g ga gb v hw x H.size) (cwV 1 hts gL_markAltitude_X9_markAltitude rfl rfl rfl (by decide +kernel) ⟨Nat.le_of_ble_eq_true rfl, Nat.le_of_ble_eq_true rfl⟩) ⟨zPE.blind, va_recv hK.1 hPc (ci := 8) (q0 := 0) rfl rfl, z_preE hK hT hZ hS (zf_free hD hS hA [0] rfl) hPc hDc⟩ rfl rfl hl.1 rfl (lv_room (Nat.le_of_ble_eq_true rfl)) dL_markAltitude_4 ⟨Nat.le_of_ble_eq_true rfl, Nat.le_of_ble_eq_true rfl⟩) hP hD hS hA [0] [1] rfl rfl (by decide) (by decide) (fun Ex ce q9 H locs hps hP hD hS hce hcv hcl => ?_) (fun H locs hph hP hD hS => ?_)
  · have hP : va_P E.1 vwCl ([[(ou, .inl (E.2 3, 1, .inr (.inl f)))], (z_W E xa na ma mb ad tx ln nx ct f0 f1 g ga gb v).flatten] : List va_W).flatten H := hP
    have hD : va_D A ([[(ou, .inl (E.2 3, 1, .inr (.inl f)))], (z_W E xa na ma mb ad tx ln nx ct f0 f1 g ga gb v).flatten] : List va_W).flatten := hD
    obtain ⟨eEx, hno⟩ := hps
    subst eEx
    refine vx_widen (k := 1) (n := 6) (by decide) (by decide) ?_
    refine vx_catch (own := RL) (name := zIO) hown [] ⟨0, 9, 12, 31⟩ [] (htab.trans rfl) (fun z hz => nomatch hz) (by decide) (by decide) (hts (.classLink RL 31 "java/lang/IndexOutOfBoundsException") (by decide +kernel)) hT.cO hce hcv hcl ?_
    refine W.eq (g2 := F0 Mi 12 ls [.ref q9]) rfl ?_
    refine lv_astore_n (lv' := [(3, .ref q9), (0, .ref (xa 0)), (1, .int x), (2, .ref ou)]) hx hb dL_markAltitude_12 rfl hl (by decide) rfl (fun ls hl => ?_)
    refine lv_iconst (v := 1) hx hb dL_markAltitude_13 (by decide) ?_
    have hP : va_P E.1 vwCl ([(z_W E xa na ma mb ad tx ln nx ct f0 f1 g ga gb v).flatten, [(ou, .inl (E.2 3, 1, .inr (.inl f)))]] : List va_W).flatten H := zf_sub hP [1, 0] rfl
    have hD : va_D A ([(z_W E xa na ma mb ad tx ln nx ct f0 f1 g ga gb v).flatten, [(ou, .inl (E.2 3, 1, .inr (.inl f)))]] : List va_W).flatten := zf_subD hD [1, 0] (by decide) rfl
    exact W.iret (v := 1) hx hb hr (z_end hP hD hS rfl) hS.2.2 dL_markAltitude_14 hlocks
  have hP : va_P E.1 vwCl ([[(ou, .inl (E.2 3, 1, .inr (.inl f)))], (z_W E xa na ma mb ad tx ln nx ct f0 f1 g ga gb v).flatten] : List va_W).flatten H := hP
  have hD : va_D A ([[(ou, .inl (E.2 3, 1, .inr (.inl f)))], (z_W E xa na ma mb ad tx ln nx ct f0 f1 g ga gb v).flatten] : List va_W).flatten := hD
  refine W.widen (k := 1) (n := 6) (by decide) (by decide) ?_
  refine W.eq (g2 := F0 Mi 7 ls [.int (m_el 10 (z_tr 10 (fun k => g (4 * k + 77))) x), .int 0, .ref ou]) rfl ?_
  exact absurd hph hpq

set_option maxHeartbeats 4000000 in
set_option maxRecDepth 100000 in
theorem c_L_climbed_y (l : Launch) (E : zE) (sa : Nat → Nat) (hl0 : l.stackTraces = false) (ou : Nat) (f : Nat → Int64) (xa na ma mb : Nat → Nat) (ad : Nat → Nat → Nat) (tx : Nat → Int32) (ln nx ct f0 f1 : Int32) (g ga gb : Nat → Int32) (v : Nat → Nat → Int32) (hw : z_wk ln nx ct f0 f1 g ga gb v) (x y : Int32) (hpq : (0 ≤ x ∧ x < g 75) ∧ (0 ≤ y ∧ y < g 75)) : zMT l yL_climbed wsL_climbed ({ frames := 8, cells := 2, slots := 12, locals := 133 }) E sa [.ref (xa 0), .int x, .int y, .ref ou] ([(z_W E xa na ma mb ad tx ln nx ct f0 f1 g ga gb v).flatten, [(ou, .inl (E.2 3, 1, .inr (.inl f)))]] : List va_W).flatten (some (.int 0)) ([(z_W E xa na ma mb ad tx ln nx ct f0 f1 g ga gb v).flatten, [(ou, .inl (E.2 3, 1, .inr (.inl (vp_updL f 0 ((m_el 10 (z_tr 10 (fun k => g (4 * k + 78))) y - m_el 10 (z_tr 10 (fun k => g (4 * k + 78))) x)).toInt64))))]] : List va_W).flatten 2 12 := by
  refine z_startw (cc := cL_climbed) (maxL := 5) (ret := (some .int)) (hh := [(0, 10, 13, 31)]) (by decide) rfl (Nat.le_of_ble_eq_true rfl) ?_
  intro Pg En s Mi below meth Cd A hx hb hr hts hown hlocks hml htab hA hT hZ hN H hH hP hK hD hS ls hl
  have hl : lv_has ls 5 [(0, .ref (xa 0)), (1, .int x), (2, .int y), (3, .ref ou)] := hl
  refine lv_aload_n hx hb dL_climbed_0 rfl (lv_at hl 3 rfl) ?_
  refine lv_iconst (v := 0) hx hb dL_climbed_1 (by decide) ?_
  refine lv_aload_n hx hb dL_climbed_2 rfl (lv_at hl 0 rfl) ?_
  refine lv_iload_n hx hb dL_climbed_3 rfl (lv_at hl 1 rfl) ?_
  refine lv_iload_n hx hb dL_climbed_4 rfl (lv_at hl 2 rfl) ?_
  have hPc : va_P E.1 vwCl ([(z_W E xa na ma mb ad tx ln nx ct f0 f1 g ga gb v).flatten] : List va_W).flatten H := zf_sub hP [0] rfl
  have hDc : va_D A ([(z_W E xa na ma mb ad tx ln nx ct f0 f1 g ga gb v).flatten] : List va_W).flatten := zf_subD hD [0] (by decide) rfl
  refine z_xmut (Sc := [(z_W E xa na ma mb ad tx ln nx ct f0 f1 g ga gb v).flatten]) (Sr := [[(ou, .inl (E.2 3, 1, .inr (.inl f)))]]) (W1 := [(z_W E xa na ma mb ad tx ln nx ct f0 f1 g ga gb v).flatten]) (vx_runV (As := [.int x, .int y]) (rest := [.int 0, .ref ou]) ⟨hx, hb, hml, hown, hts⟩ (c_X9_climbed l E sa hl0 xa na ma mb ad tx ln nx ct f0 f1 g ga gb v hw x y H.size) (cwV 2 hts gL_climbed_X9_climbed rfl rfl rfl (by decide +kernel) ⟨Nat.le_of_ble_eq_true rfl, Nat.le_of_ble_eq_true rfl⟩) ⟨zPE.blind, va_recv hK.1 hPc (ci := 8) (q0 := 0) rfl rfl, z_preE hK hT hZ hS (zf_free hD hS hA [0] rfl) hPc hDc⟩ rfl rfl hl.1 rfl (lv_room (Nat.le_of_ble_eq_true rfl)) dL_climbed_5 ⟨Nat.le_of_ble_eq_true rfl, Nat.le_of_ble_eq_true rfl⟩) hP hD hS hA [0] [1] rfl rfl (by decide) (by decide) (fun Ex ce q9 H locs hps hP hD hS hce hcv hcl => ?_) (fun H locs hph hP hD hS => ?_)
  · have hP : va_P E.1 vwCl ([[(ou, .inl (E.2 3, 1, .inr (.inl f)))], (z_W E xa na ma mb ad tx ln nx ct f0 f1 g ga gb v).flatten] : List va_W).flatten H := hP
    have hD : va_D A ([[(ou, .inl (E.2 3, 1, .inr (.inl f)))], (z_W E xa na ma mb ad tx ln nx ct f0 f1 g ga gb v).flatten] : List va_W).flatten := hD
    exact absurd hpq hps.2
  have hP : va_P E.1 vwCl ([[(ou, .inl (E.2 3, 1, .inr (.inl f)))], (z_W E xa na ma mb ad tx ln nx ct f0 f1 g ga gb v).flatten] : List va_W).flatten H := hP
  have hD : va_D A ([[(ou, .inl (E.2 3, 1, .inr (.inl f)))], (z_W E xa na ma mb ad tx ln nx ct f0 f1 g ga gb v).flatten] : List va_W).flatten := hD
  refine W.widen (k := 2) (n := 12) (by decide) (by decide) ?_
  refine W.eq (g2 := F0 Mi 8 ls [.int (m_el 10 (z_tr 10 (fun k => g (4 * k + 78))) y - m_el 10 (z_tr 10 (fun k => g (4 * k + 78))) x), .int 0, .ref ou]) rfl ?_
  refine lv_i2l hx hb dL_climbed_8 rfl ?_
  refine z_last (k := 0) hx hb hK.1 hP hD hS 0 rfl rfl (by decide) (by decide) dL_climbed_9 (fun H locs hP hD hS => ?_)
  have hP : va_P E.1 vwCl ([[(ou, .inl (E.2 3, 1, .inr (.inl (vp_updL f 0 (((m_el 10 (z_tr 10 (fun k => g (4 * k + 78))) y - m_el 10 (z_tr 10 (fun k => g (4 * k + 78))) x)).toInt64)))))], (z_W E xa na ma mb ad tx ln nx ct f0 f1 g ga gb v).flatten] : List va_W).flatten H := hP
  have hD : va_D A ([[(ou, .inl (E.2 3, 1, .inr (.inl (vp_updL f 0 (((m_el 10 (z_tr 10 (fun k => g (4 * k + 78))) y - m_el 10 (z_tr 10 (fun k => g (4 * k + 78))) x)).toInt64)))))], (z_W E xa na ma mb ad tx ln nx ct f0 f1 g ga gb v).flatten] : List va_W).flatten := hD
  refine lv_goto (tgt := 17) hx hb dL_climbed_10 (by decide) ?_
  refine lv_iconst (v := 0) hx hb dL_climbed_17 (by decide) ?_
  have hP : va_P E.1 vwCl ([(z_W E xa na ma mb ad tx ln nx ct f0 f1 g ga gb v).flatten, [(ou, .inl (E.2 3, 1, .inr (.inl (vp_updL f 0 (((m_el 10 (z_tr 10 (fun k => g (4 * k + 78))) y - m_el 10 (z_tr 10 (fun k => g (4 * k + 78))) x)).toInt64)))))]] : List va_W).flatten H := zf_sub hP [1, 0] rfl
  have hD : va_D A ([(z_W E xa na ma mb ad tx ln nx ct f0 f1 g ga gb v).flatten, [(ou, .inl (E.2 3, 1, .inr (.inl (vp_updL f 0 (((m_el 10 (z_tr 10 (fun k => g (4 * k + 78))) y - m_el 10 (z_tr 10 (fun k => g (4 * k + 78))) x)).toInt64)))))]] : List va_W).flatten := zf_subD hD [1, 0] (by decide) rfl
  exact W.iret (v := 0) hx hb hr (z_end hP hD hS rfl) hS.2.2 dL_climbed_18 hlocks

set_option maxHeartbeats 4000000 in
set_option maxRecDepth 100000 in
theorem c_L_climbed_n (l : Launch) (E : zE) (sa : Nat → Nat) (hl0 : l.stackTraces = false) (ou : Nat) (f : Nat → Int64) (xa na ma mb : Nat → Nat) (ad : Nat → Nat → Nat) (tx : Nat → Int32) (ln nx ct f0 f1 : Int32) (g ga gb : Nat → Int32) (v : Nat → Nat → Int32) (hw : z_wk ln nx ct f0 f1 g ga gb v) (x y : Int32) (hpq : ¬ ((0 ≤ x ∧ x < g 75) ∧ (0 ≤ y ∧ y < g 75))) : zMT l yL_climbed wsL_climbed ({ frames := 8, cells := 2, slots := 12, locals := 133 }) E sa [.ref (xa 0), .int x, .int y, .ref ou] ([(z_W E xa na ma mb ad tx ln nx ct f0 f1 g ga gb v).flatten, [(ou, .inl (E.2 3, 1, .inr (.inl f)))]] : List va_W).flatten (some (.int 1)) ([(z_W E xa na ma mb ad tx ln nx ct f0 f1 g ga gb v).flatten, [(ou, .inl (E.2 3, 1, .inr (.inl f)))]] : List va_W).flatten 2 12 := by
  refine z_startw (cc := cL_climbed) (maxL := 5) (ret := (some .int)) (hh := [(0, 10, 13, 31)]) (by decide) rfl (Nat.le_of_ble_eq_true rfl) ?_
  intro Pg En s Mi below meth Cd A hx hb hr hts hown hlocks hml htab hA hT hZ hN H hH hP hK hD hS ls hl
  have hl : lv_has ls 5 [(0, .ref (xa 0)), (1, .int x), (2, .int y), (3, .ref ou)] := hl
  refine lv_aload_n hx hb dL_climbed_0 rfl (lv_at hl 3 rfl) ?_
  refine lv_iconst (v := 0) hx hb dL_climbed_1 (by decide) ?_
  refine lv_aload_n hx hb dL_climbed_2 rfl (lv_at hl 0 rfl) ?_
  refine lv_iload_n hx hb dL_climbed_3 rfl (lv_at hl 1 rfl) ?_
  refine lv_iload_n hx hb dL_climbed_4 rfl (lv_at hl 2 rfl) ?_
  have hPc : va_P E.1 vwCl ([(z_W E xa na ma mb ad tx ln nx ct f0 f1 g ga gb v).flatten] : List va_W).flatten H := zf_sub hP [0] rfl
  have hDc : va_D A ([(z_W E xa na ma mb ad tx ln nx ct f0 f1 g ga gb v).flatten] : List va_W).flatten := zf_subD hD [0] (by decide) rfl
  refine z_xmut (Sc := [(z_W E xa na ma mb ad tx ln nx ct f0 f1 g ga gb v).flatten]) (Sr := [[(ou, .inl (E.2 3, 1, .inr (.inl f)))]]) (W1 := [(z_W E xa na ma mb ad tx ln nx ct f0 f1 g ga gb v).flatten]) (vx_runV (As := [.int x, .int y]) (rest := [.int 0, .ref ou]) ⟨hx, hb, hml, hown, hts⟩ (c_X9_climbed l E sa hl0 xa na ma mb ad tx ln nx ct f0 f1 g ga gb v hw x y H.size) (cwV 2 hts gL_climbed_X9_climbed rfl rfl rfl (by decide +kernel) ⟨Nat.le_of_ble_eq_true rfl, Nat.le_of_ble_eq_true rfl⟩) ⟨zPE.blind, va_recv hK.1 hPc (ci := 8) (q0 := 0) rfl rfl, z_preE hK hT hZ hS (zf_free hD hS hA [0] rfl) hPc hDc⟩ rfl rfl hl.1 rfl (lv_room (Nat.le_of_ble_eq_true rfl)) dL_climbed_5 ⟨Nat.le_of_ble_eq_true rfl, Nat.le_of_ble_eq_true rfl⟩) hP hD hS hA [0] [1] rfl rfl (by decide) (by decide) (fun Ex ce q9 H locs hps hP hD hS hce hcv hcl => ?_) (fun H locs hph hP hD hS => ?_)
  · have hP : va_P E.1 vwCl ([[(ou, .inl (E.2 3, 1, .inr (.inl f)))], (z_W E xa na ma mb ad tx ln nx ct f0 f1 g ga gb v).flatten] : List va_W).flatten H := hP
    have hD : va_D A ([[(ou, .inl (E.2 3, 1, .inr (.inl f)))], (z_W E xa na ma mb ad tx ln nx ct f0 f1 g ga gb v).flatten] : List va_W).flatten := hD
    obtain ⟨eEx, hno⟩ := hps
    subst eEx
    refine vx_widen (k := 2) (n := 12) (by decide) (by decide) ?_
    refine vx_catch (own := RL) (name := zIO) hown [] ⟨0, 10, 13, 31⟩ [] (htab.trans rfl) (fun z hz => nomatch hz) (by decide) (by decide) (hts (.classLink RL 31 "java/lang/IndexOutOfBoundsException") (by decide +kernel)) hT.cO hce hcv hcl ?_
    refine W.eq (g2 := F0 Mi 13 ls [.ref q9]) rfl ?_
    refine lv_astore (lv' := [(4, .ref q9), (0, .ref (xa 0)), (1, .int x), (2, .int y), (3, .ref ou)]) hx hb dL_climbed_13 hl (by decide) rfl (fun ls hl => ?_)
    refine lv_iconst (v := 1) hx hb dL_climbed_15 (by decide) ?_
    have hP : va_P E.1 vwCl ([(z_W E xa na ma mb ad tx ln nx ct f0 f1 g ga gb v).flatten, [(ou, .inl (E.2 3, 1, .inr (.inl f)))]] : List va_W).flatten H := zf_sub hP [1, 0] rfl
    have hD : va_D A ([(z_W E xa na ma mb ad tx ln nx ct f0 f1 g ga gb v).flatten, [(ou, .inl (E.2 3, 1, .inr (.inl f)))]] : List va_W).flatten := zf_subD hD [1, 0] (by decide) rfl
    exact W.iret (v := 1) hx hb hr (z_end hP hD hS rfl) hS.2.2 dL_climbed_16 hlocks
  have hP : va_P E.1 vwCl ([[(ou, .inl (E.2 3, 1, .inr (.inl f)))], (z_W E xa na ma mb ad tx ln nx ct f0 f1 g ga gb v).flatten] : List va_W).flatten H := hP
  have hD : va_D A ([[(ou, .inl (E.2 3, 1, .inr (.inl f)))], (z_W E xa na ma mb ad tx ln nx ct f0 f1 g ga gb v).flatten] : List va_W).flatten := hD
  refine W.widen (k := 2) (n := 12) (by decide) (by decide) ?_
  refine W.eq (g2 := F0 Mi 8 ls [.int (m_el 10 (z_tr 10 (fun k => g (4 * k + 78))) y - m_el 10 (z_tr 10 (fun k => g (4 * k + 78))) x), .int 0, .ref ou]) rfl ?_
  exact absurd hph hpq

set_option maxHeartbeats 4000000 in
set_option maxRecDepth 100000 in
theorem c_L_setAlarm_y (l : Launch) (E : zE) (sa : Nat → Nat) (hl0 : l.stackTraces = false) (ou : Nat) (f : Nat → Int64) (xa na ma mb : Nat → Nat) (ad : Nat → Nat → Nat) (tx : Nat → Int32) (ln nx ct f0 f1 : Int32) (g ga gb : Nat → Int32) (v : Nat → Nat → Int32) (hw : z_wk ln nx ct f0 f1 g ga gb v) (x : Int32) (hpq : 10 ≤ x ∧ x ≤ 200) : zMT l yL_setAlarm wsL_setAlarm ({ frames := 8, cells := 1, slots := 6, locals := 134 }) E sa [.ref (xa 0), .int x, .ref ou] ([(z_W E xa na ma mb ad tx ln nx ct f0 f1 g ga gb v).flatten, [(ou, .inl (E.2 3, 1, .inr (.inl f)))]] : List va_W).flatten (some (.int 0)) ([(z_W E xa na ma mb ad tx ln (nI ((m_n nx + 1) % 6)) (nI (if m_n ct < 6 then m_n ct + 1 else 6)) f0 f1 (upd g 11 x) ga gb (va_up v (m_n nx) g)).flatten, [(ou, .inl (E.2 3, 1, .inr (.inl (vp_updL f 0 ((g 11)).toInt64))))]] : List va_W).flatten 1 6 := by
  refine z_startw (cc := cL_setAlarm) (maxL := 4) (ret := (some .int)) (hh := [(0, 9, 12, 13)]) (by decide) rfl (Nat.le_of_ble_eq_true rfl) ?_
  intro Pg En s Mi below meth Cd A hx hb hr hts hown hlocks hml htab hA hT hZ hN H hH hP hK hD hS ls hl
  have hl : lv_has ls 4 [(0, .ref (xa 0)), (1, .int x), (2, .ref ou)] := hl
  refine lv_aload_n hx hb dL_setAlarm_0 rfl (lv_at hl 2 rfl) ?_
  refine lv_iconst (v := 0) hx hb dL_setAlarm_1 (by decide) ?_
  refine lv_aload_n hx hb dL_setAlarm_2 rfl (lv_at hl 0 rfl) ?_
  refine lv_iload_n hx hb dL_setAlarm_3 rfl (lv_at hl 1 rfl) ?_
  have hPc : va_P E.1 vwCl ([(z_W E xa na ma mb ad tx ln nx ct f0 f1 g ga gb v).flatten] : List va_W).flatten H := zf_sub hP [0] rfl
  have hDc : va_D A ([(z_W E xa na ma mb ad tx ln nx ct f0 f1 g ga gb v).flatten] : List va_W).flatten := zf_subD hD [0] (by decide) rfl
  refine z_xmut (Sc := [(z_W E xa na ma mb ad tx ln nx ct f0 f1 g ga gb v).flatten]) (Sr := [[(ou, .inl (E.2 3, 1, .inr (.inl f)))]]) (W1 := [(z_W E xa na ma mb ad tx ln (nI ((m_n nx + 1) % 6)) (nI (if m_n ct < 6 then m_n ct + 1 else 6)) f0 f1 (upd g 11 x) ga gb (va_up v (m_n nx) g)).flatten]) (vx_runV (As := [.int x]) (rest := [.int 0, .ref ou]) ⟨hx, hb, hml, hown, hts⟩ (c_X9_setAlarm l E sa hl0 xa na ma mb ad tx ln nx ct f0 f1 g ga gb v hw x H.size) (cwV 1 hts gL_setAlarm_X9_setAlarm rfl rfl rfl (by decide +kernel) ⟨Nat.le_of_ble_eq_true rfl, Nat.le_of_ble_eq_true rfl⟩) ⟨zPE.blind, va_recv hK.1 hPc (ci := 8) (q0 := 0) rfl rfl, z_preE hK hT hZ hS (zf_free hD hS hA [0] rfl) hPc hDc⟩ rfl rfl hl.1 rfl (lv_room (Nat.le_of_ble_eq_true rfl)) dL_setAlarm_4 ⟨Nat.le_of_ble_eq_true rfl, Nat.le_of_ble_eq_true rfl⟩) hP hD hS hA [0] [1] rfl rfl (by decide) (by decide) (fun Ex ce q9 H locs hps hP hD hS hce hcv hcl => ?_) (fun H locs hph hP hD hS => ?_)
  · have hP : va_P E.1 vwCl ([[(ou, .inl (E.2 3, 1, .inr (.inl f)))], (z_W E xa na ma mb ad tx ln nx ct f0 f1 g ga gb v).flatten] : List va_W).flatten H := hP
    have hD : va_D A ([[(ou, .inl (E.2 3, 1, .inr (.inl f)))], (z_W E xa na ma mb ad tx ln nx ct f0 f1 g ga gb v).flatten] : List va_W).flatten := hD
    exact absurd hpq hps.2
  have hP : va_P E.1 vwCl ([[(ou, .inl (E.2 3, 1, .inr (.inl f)))], (z_W E xa na ma mb ad tx ln (nI ((m_n nx + 1) % 6)) (nI (if m_n ct < 6 then m_n ct + 1 else 6)) f0 f1 (upd g 11 x) ga gb (va_up v (m_n nx) g)).flatten] : List va_W).flatten H := hP
  have hD : va_D A ([[(ou, .inl (E.2 3, 1, .inr (.inl f)))], (z_W E xa na ma mb ad tx ln (nI ((m_n nx + 1) % 6)) (nI (if m_n ct < 6 then m_n ct + 1 else 6)) f0 f1 (upd g 11 x) ga gb (va_up v (m_n nx) g)).flatten] : List va_W).flatten := hD
  refine W.widen (k := 1) (n := 6) (by decide) (by decide) ?_
  refine W.eq (g2 := F0 Mi 7 ls [.int (g 11), .int 0, .ref ou]) rfl ?_
  refine lv_i2l hx hb dL_setAlarm_7 rfl ?_
  refine z_last (k := 0) hx hb hK.1 hP hD hS 0 rfl rfl (by decide) (by decide) dL_setAlarm_8 (fun H locs hP hD hS => ?_)
  have hP : va_P E.1 vwCl ([[(ou, .inl (E.2 3, 1, .inr (.inl (vp_updL f 0 (((g 11)).toInt64)))))], (z_W E xa na ma mb ad tx ln (nI ((m_n nx + 1) % 6)) (nI (if m_n ct < 6 then m_n ct + 1 else 6)) f0 f1 (upd g 11 x) ga gb (va_up v (m_n nx) g)).flatten] : List va_W).flatten H := hP
  have hD : va_D A ([[(ou, .inl (E.2 3, 1, .inr (.inl (vp_updL f 0 (((g 11)).toInt64)))))], (z_W E xa na ma mb ad tx ln (nI ((m_n nx + 1) % 6)) (nI (if m_n ct < 6 then m_n ct + 1 else 6)) f0 f1 (upd g 11 x) ga gb (va_up v (m_n nx) g)).flatten] : List va_W).flatten := hD
  refine lv_goto (tgt := 15) hx hb dL_setAlarm_9 (by decide) ?_
  refine lv_iconst (v := 0) hx hb dL_setAlarm_15 (by decide) ?_
  have hP : va_P E.1 vwCl ([(z_W E xa na ma mb ad tx ln (nI ((m_n nx + 1) % 6)) (nI (if m_n ct < 6 then m_n ct + 1 else 6)) f0 f1 (upd g 11 x) ga gb (va_up v (m_n nx) g)).flatten, [(ou, .inl (E.2 3, 1, .inr (.inl (vp_updL f 0 (((g 11)).toInt64)))))]] : List va_W).flatten H := zf_sub hP [1, 0] rfl
  have hD : va_D A ([(z_W E xa na ma mb ad tx ln (nI ((m_n nx + 1) % 6)) (nI (if m_n ct < 6 then m_n ct + 1 else 6)) f0 f1 (upd g 11 x) ga gb (va_up v (m_n nx) g)).flatten, [(ou, .inl (E.2 3, 1, .inr (.inl (vp_updL f 0 (((g 11)).toInt64)))))]] : List va_W).flatten := zf_subD hD [1, 0] (by decide) rfl
  exact W.iret (v := 0) hx hb hr (z_end hP hD hS rfl) hS.2.2 dL_setAlarm_16 hlocks

set_option maxHeartbeats 4000000 in
set_option maxRecDepth 100000 in
theorem c_L_setAlarm_n (l : Launch) (E : zE) (sa : Nat → Nat) (hl0 : l.stackTraces = false) (ou : Nat) (f : Nat → Int64) (xa na ma mb : Nat → Nat) (ad : Nat → Nat → Nat) (tx : Nat → Int32) (ln nx ct f0 f1 : Int32) (g ga gb : Nat → Int32) (v : Nat → Nat → Int32) (hw : z_wk ln nx ct f0 f1 g ga gb v) (x : Int32) (hpq : ¬ (10 ≤ x ∧ x ≤ 200)) : zMT l yL_setAlarm wsL_setAlarm ({ frames := 8, cells := 1, slots := 6, locals := 134 }) E sa [.ref (xa 0), .int x, .ref ou] ([(z_W E xa na ma mb ad tx ln nx ct f0 f1 g ga gb v).flatten, [(ou, .inl (E.2 3, 1, .inr (.inl f)))]] : List va_W).flatten (some (.int 1)) ([(z_W E xa na ma mb ad tx ln nx ct f0 f1 g ga gb v).flatten, [(ou, .inl (E.2 3, 1, .inr (.inl f)))]] : List va_W).flatten 1 6 := by
  refine z_startw (cc := cL_setAlarm) (maxL := 4) (ret := (some .int)) (hh := [(0, 9, 12, 13)]) (by decide) rfl (Nat.le_of_ble_eq_true rfl) ?_
  intro Pg En s Mi below meth Cd A hx hb hr hts hown hlocks hml htab hA hT hZ hN H hH hP hK hD hS ls hl
  have hl : lv_has ls 4 [(0, .ref (xa 0)), (1, .int x), (2, .ref ou)] := hl
  refine lv_aload_n hx hb dL_setAlarm_0 rfl (lv_at hl 2 rfl) ?_
  refine lv_iconst (v := 0) hx hb dL_setAlarm_1 (by decide) ?_
  refine lv_aload_n hx hb dL_setAlarm_2 rfl (lv_at hl 0 rfl) ?_
  refine lv_iload_n hx hb dL_setAlarm_3 rfl (lv_at hl 1 rfl) ?_
  have hPc : va_P E.1 vwCl ([(z_W E xa na ma mb ad tx ln nx ct f0 f1 g ga gb v).flatten] : List va_W).flatten H := zf_sub hP [0] rfl
  have hDc : va_D A ([(z_W E xa na ma mb ad tx ln nx ct f0 f1 g ga gb v).flatten] : List va_W).flatten := zf_subD hD [0] (by decide) rfl
  refine z_xmut (Sc := [(z_W E xa na ma mb ad tx ln nx ct f0 f1 g ga gb v).flatten]) (Sr := [[(ou, .inl (E.2 3, 1, .inr (.inl f)))]]) (W1 := [(z_W E xa na ma mb ad tx ln (nI ((m_n nx + 1) % 6)) (nI (if m_n ct < 6 then m_n ct + 1 else 6)) f0 f1 (upd g 11 x) ga gb (va_up v (m_n nx) g)).flatten]) (vx_runV (As := [.int x]) (rest := [.int 0, .ref ou]) ⟨hx, hb, hml, hown, hts⟩ (c_X9_setAlarm l E sa hl0 xa na ma mb ad tx ln nx ct f0 f1 g ga gb v hw x H.size) (cwV 1 hts gL_setAlarm_X9_setAlarm rfl rfl rfl (by decide +kernel) ⟨Nat.le_of_ble_eq_true rfl, Nat.le_of_ble_eq_true rfl⟩) ⟨zPE.blind, va_recv hK.1 hPc (ci := 8) (q0 := 0) rfl rfl, z_preE hK hT hZ hS (zf_free hD hS hA [0] rfl) hPc hDc⟩ rfl rfl hl.1 rfl (lv_room (Nat.le_of_ble_eq_true rfl)) dL_setAlarm_4 ⟨Nat.le_of_ble_eq_true rfl, Nat.le_of_ble_eq_true rfl⟩) hP hD hS hA [0] [1] rfl rfl (by decide) (by decide) (fun Ex ce q9 H locs hps hP hD hS hce hcv hcl => ?_) (fun H locs hph hP hD hS => ?_)
  · have hP : va_P E.1 vwCl ([[(ou, .inl (E.2 3, 1, .inr (.inl f)))], (z_W E xa na ma mb ad tx ln nx ct f0 f1 g ga gb v).flatten] : List va_W).flatten H := hP
    have hD : va_D A ([[(ou, .inl (E.2 3, 1, .inr (.inl f)))], (z_W E xa na ma mb ad tx ln nx ct f0 f1 g ga gb v).flatten] : List va_W).flatten := hD
    obtain ⟨eEx, hno⟩ := hps
    subst eEx
    refine vx_widen (k := 1) (n := 6) (by decide) (by decide) ?_
    refine vx_catch (own := RL) (name := zIA) hown [] ⟨0, 9, 12, 13⟩ [] (htab.trans rfl) (fun z hz => nomatch hz) (by decide) (by decide) (hts (.classLink RL 13 "java/lang/IllegalArgumentException") (by decide +kernel)) hT.cA hce hcv hcl ?_
    refine W.eq (g2 := F0 Mi 12 ls [.ref q9]) rfl ?_
    refine lv_astore_n (lv' := [(3, .ref q9), (0, .ref (xa 0)), (1, .int x), (2, .ref ou)]) hx hb dL_setAlarm_12 rfl hl (by decide) rfl (fun ls hl => ?_)
    refine lv_iconst (v := 1) hx hb dL_setAlarm_13 (by decide) ?_
    have hP : va_P E.1 vwCl ([(z_W E xa na ma mb ad tx ln nx ct f0 f1 g ga gb v).flatten, [(ou, .inl (E.2 3, 1, .inr (.inl f)))]] : List va_W).flatten H := zf_sub hP [1, 0] rfl
    have hD : va_D A ([(z_W E xa na ma mb ad tx ln nx ct f0 f1 g ga gb v).flatten, [(ou, .inl (E.2 3, 1, .inr (.inl f)))]] : List va_W).flatten := zf_subD hD [1, 0] (by decide) rfl
    exact W.iret (v := 1) hx hb hr (z_end hP hD hS rfl) hS.2.2 dL_setAlarm_14 hlocks
  have hP : va_P E.1 vwCl ([[(ou, .inl (E.2 3, 1, .inr (.inl f)))], (z_W E xa na ma mb ad tx ln (nI ((m_n nx + 1) % 6)) (nI (if m_n ct < 6 then m_n ct + 1 else 6)) f0 f1 (upd g 11 x) ga gb (va_up v (m_n nx) g)).flatten] : List va_W).flatten H := hP
  have hD : va_D A ([[(ou, .inl (E.2 3, 1, .inr (.inl f)))], (z_W E xa na ma mb ad tx ln (nI ((m_n nx + 1) % 6)) (nI (if m_n ct < 6 then m_n ct + 1 else 6)) f0 f1 (upd g 11 x) ga gb (va_up v (m_n nx) g)).flatten] : List va_W).flatten := hD
  refine W.widen (k := 1) (n := 6) (by decide) (by decide) ?_
  refine W.eq (g2 := F0 Mi 7 ls [.int (g 11), .int 0, .ref ou]) rfl ?_
  exact absurd hph hpq

set_option maxHeartbeats 4000000 in
set_option maxRecDepth 100000 in
theorem c_L_altitudeAfter_y (l : Launch) (E : zE) (sa : Nat → Nat) (hl0 : l.stackTraces = false) (ou : Nat) (f : Nat → Int64) (xa na ma mb : Nat → Nat) (ad : Nat → Nat → Nat) (tx : Nat → Int32) (ln nx ct f0 f1 : Int32) (g ga gb : Nat → Int32) (v : Nat → Nat → Int32) (hw : z_wk ln nx ct f0 f1 g ga gb v) (n p : Int32) (hpq : (1 ≤ n ∧ n ≤ 120) ∧ (5000 ≤ p ∧ p ≤ 11000)) : zMT l yL_altitudeAfter wsL_altitudeAfter ({ frames := 8, cells := 2, slots := 12, locals := 134 }) E sa [.ref (xa 0), .int n, .int p, .ref ou] ([(z_W E xa na ma mb ad tx ln nx ct f0 f1 g ga gb v).flatten, [(ou, .inl (E.2 3, 1, .inr (.inl f)))]] : List va_W).flatten (some (.int 0)) ([(z_W E xa na ma mb ad tx ln nx ct f0 f1 g ga gb v).flatten, [(ou, .inl (E.2 3, 1, .inr (.inl (vp_updL f 0 ((m_hatC g p)).toInt64))))]] : List va_W).flatten 2 12 := by
  refine z_startw (cc := cL_altitudeAfter) (maxL := 5) (ret := (some .int)) (hh := [(0, 10, 13, 13)]) (by decide) rfl (Nat.le_of_ble_eq_true rfl) ?_
  intro Pg En s Mi below meth Cd A hx hb hr hts hown hlocks hml htab hA hT hZ hN H hH hP hK hD hS ls hl
  have hl : lv_has ls 5 [(0, .ref (xa 0)), (1, .int n), (2, .int p), (3, .ref ou)] := hl
  refine lv_aload_n hx hb dL_altitudeAfter_0 rfl (lv_at hl 3 rfl) ?_
  refine lv_iconst (v := 0) hx hb dL_altitudeAfter_1 (by decide) ?_
  refine lv_aload_n hx hb dL_altitudeAfter_2 rfl (lv_at hl 0 rfl) ?_
  refine lv_iload_n hx hb dL_altitudeAfter_3 rfl (lv_at hl 1 rfl) ?_
  refine lv_iload_n hx hb dL_altitudeAfter_4 rfl (lv_at hl 2 rfl) ?_
  have hPc : va_P E.1 vwCl ([(z_W E xa na ma mb ad tx ln nx ct f0 f1 g ga gb v).flatten] : List va_W).flatten H := zf_sub hP [0] rfl
  have hDc : va_D A ([(z_W E xa na ma mb ad tx ln nx ct f0 f1 g ga gb v).flatten] : List va_W).flatten := zf_subD hD [0] (by decide) rfl
  refine z_xmut (Sc := [(z_W E xa na ma mb ad tx ln nx ct f0 f1 g ga gb v).flatten]) (Sr := [[(ou, .inl (E.2 3, 1, .inr (.inl f)))]]) (W1 := [(z_W E xa na ma mb ad tx ln nx ct f0 f1 g ga gb v).flatten]) (vx_runV (As := [.int n, .int p]) (rest := [.int 0, .ref ou]) ⟨hx, hb, hml, hown, hts⟩ (c_X9_altitudeAfter l E sa hl0 xa na ma mb ad tx ln nx ct f0 f1 g ga gb v hw n p H.size) (cwV 2 hts gL_altitudeAfter_X9_altitudeAfter rfl rfl rfl (by decide +kernel) ⟨Nat.le_of_ble_eq_true rfl, Nat.le_of_ble_eq_true rfl⟩) ⟨zPE.blind, va_recv hK.1 hPc (ci := 8) (q0 := 0) rfl rfl, z_preE hK hT hZ hS (zf_free hD hS hA [0] rfl) hPc hDc⟩ rfl rfl hl.1 rfl (lv_room (Nat.le_of_ble_eq_true rfl)) dL_altitudeAfter_5 ⟨Nat.le_of_ble_eq_true rfl, Nat.le_of_ble_eq_true rfl⟩) hP hD hS hA [0] [1] rfl rfl (by decide) (by decide) (fun Ex ce q9 H locs hps hP hD hS hce hcv hcl => ?_) (fun H locs hph hP hD hS => ?_)
  · have hP : va_P E.1 vwCl ([[(ou, .inl (E.2 3, 1, .inr (.inl f)))], (z_W E xa na ma mb ad tx ln nx ct f0 f1 g ga gb v).flatten] : List va_W).flatten H := hP
    have hD : va_D A ([[(ou, .inl (E.2 3, 1, .inr (.inl f)))], (z_W E xa na ma mb ad tx ln nx ct f0 f1 g ga gb v).flatten] : List va_W).flatten := hD
    exact absurd hpq hps.2
  have hP : va_P E.1 vwCl ([[(ou, .inl (E.2 3, 1, .inr (.inl f)))], (z_W E xa na ma mb ad tx ln nx ct f0 f1 g ga gb v).flatten] : List va_W).flatten H := hP
  have hD : va_D A ([[(ou, .inl (E.2 3, 1, .inr (.inl f)))], (z_W E xa na ma mb ad tx ln nx ct f0 f1 g ga gb v).flatten] : List va_W).flatten := hD
  refine W.widen (k := 2) (n := 12) (by decide) (by decide) ?_
  refine W.eq (g2 := F0 Mi 8 ls [.int (m_hatC g p), .int 0, .ref ou]) rfl ?_
  refine lv_i2l hx hb dL_altitudeAfter_8 rfl ?_
  refine z_last (k := 0) hx hb hK.1 hP hD hS 0 rfl rfl (by decide) (by decide) dL_altitudeAfter_9 (fun H locs hP hD hS => ?_)
  have hP : va_P E.1 vwCl ([[(ou, .inl (E.2 3, 1, .inr (.inl (vp_updL f 0 (((m_hatC g p)).toInt64)))))], (z_W E xa na ma mb ad tx ln nx ct f0 f1 g ga gb v).flatten] : List va_W).flatten H := hP
  have hD : va_D A ([[(ou, .inl (E.2 3, 1, .inr (.inl (vp_updL f 0 (((m_hatC g p)).toInt64)))))], (z_W E xa na ma mb ad tx ln nx ct f0 f1 g ga gb v).flatten] : List va_W).flatten := hD
  refine lv_goto (tgt := 17) hx hb dL_altitudeAfter_10 (by decide) ?_
  refine lv_iconst (v := 0) hx hb dL_altitudeAfter_17 (by decide) ?_
  have hP : va_P E.1 vwCl ([(z_W E xa na ma mb ad tx ln nx ct f0 f1 g ga gb v).flatten, [(ou, .inl (E.2 3, 1, .inr (.inl (vp_updL f 0 (((m_hatC g p)).toInt64)))))]] : List va_W).flatten H := zf_sub hP [1, 0] rfl
  have hD : va_D A ([(z_W E xa na ma mb ad tx ln nx ct f0 f1 g ga gb v).flatten, [(ou, .inl (E.2 3, 1, .inr (.inl (vp_updL f 0 (((m_hatC g p)).toInt64)))))]] : List va_W).flatten := zf_subD hD [1, 0] (by decide) rfl
  exact W.iret (v := 0) hx hb hr (z_end hP hD hS rfl) hS.2.2 dL_altitudeAfter_18 hlocks

set_option maxHeartbeats 4000000 in
set_option maxRecDepth 100000 in
theorem c_L_altitudeAfter_n (l : Launch) (E : zE) (sa : Nat → Nat) (hl0 : l.stackTraces = false) (ou : Nat) (f : Nat → Int64) (xa na ma mb : Nat → Nat) (ad : Nat → Nat → Nat) (tx : Nat → Int32) (ln nx ct f0 f1 : Int32) (g ga gb : Nat → Int32) (v : Nat → Nat → Int32) (hw : z_wk ln nx ct f0 f1 g ga gb v) (n p : Int32) (hpq : ¬ ((1 ≤ n ∧ n ≤ 120) ∧ (5000 ≤ p ∧ p ≤ 11000))) : zMT l yL_altitudeAfter wsL_altitudeAfter ({ frames := 8, cells := 2, slots := 12, locals := 134 }) E sa [.ref (xa 0), .int n, .int p, .ref ou] ([(z_W E xa na ma mb ad tx ln nx ct f0 f1 g ga gb v).flatten, [(ou, .inl (E.2 3, 1, .inr (.inl f)))]] : List va_W).flatten (some (.int 1)) ([(z_W E xa na ma mb ad tx ln nx ct f0 f1 g ga gb v).flatten, [(ou, .inl (E.2 3, 1, .inr (.inl f)))]] : List va_W).flatten 2 12 := by
  refine z_startw (cc := cL_altitudeAfter) (maxL := 5) (ret := (some .int)) (hh := [(0, 10, 13, 13)]) (by decide) rfl (Nat.le_of_ble_eq_true rfl) ?_
  intro Pg En s Mi below meth Cd A hx hb hr hts hown hlocks hml htab hA hT hZ hN H hH hP hK hD hS ls hl
  have hl : lv_has ls 5 [(0, .ref (xa 0)), (1, .int n), (2, .int p), (3, .ref ou)] := hl
  refine lv_aload_n hx hb dL_altitudeAfter_0 rfl (lv_at hl 3 rfl) ?_
  refine lv_iconst (v := 0) hx hb dL_altitudeAfter_1 (by decide) ?_
  refine lv_aload_n hx hb dL_altitudeAfter_2 rfl (lv_at hl 0 rfl) ?_
  refine lv_iload_n hx hb dL_altitudeAfter_3 rfl (lv_at hl 1 rfl) ?_
  refine lv_iload_n hx hb dL_altitudeAfter_4 rfl (lv_at hl 2 rfl) ?_
  have hPc : va_P E.1 vwCl ([(z_W E xa na ma mb ad tx ln nx ct f0 f1 g ga gb v).flatten] : List va_W).flatten H := zf_sub hP [0] rfl
  have hDc : va_D A ([(z_W E xa na ma mb ad tx ln nx ct f0 f1 g ga gb v).flatten] : List va_W).flatten := zf_subD hD [0] (by decide) rfl
  refine z_xmut (Sc := [(z_W E xa na ma mb ad tx ln nx ct f0 f1 g ga gb v).flatten]) (Sr := [[(ou, .inl (E.2 3, 1, .inr (.inl f)))]]) (W1 := [(z_W E xa na ma mb ad tx ln nx ct f0 f1 g ga gb v).flatten]) (vx_runV (As := [.int n, .int p]) (rest := [.int 0, .ref ou]) ⟨hx, hb, hml, hown, hts⟩ (c_X9_altitudeAfter l E sa hl0 xa na ma mb ad tx ln nx ct f0 f1 g ga gb v hw n p H.size) (cwV 2 hts gL_altitudeAfter_X9_altitudeAfter rfl rfl rfl (by decide +kernel) ⟨Nat.le_of_ble_eq_true rfl, Nat.le_of_ble_eq_true rfl⟩) ⟨zPE.blind, va_recv hK.1 hPc (ci := 8) (q0 := 0) rfl rfl, z_preE hK hT hZ hS (zf_free hD hS hA [0] rfl) hPc hDc⟩ rfl rfl hl.1 rfl (lv_room (Nat.le_of_ble_eq_true rfl)) dL_altitudeAfter_5 ⟨Nat.le_of_ble_eq_true rfl, Nat.le_of_ble_eq_true rfl⟩) hP hD hS hA [0] [1] rfl rfl (by decide) (by decide) (fun Ex ce q9 H locs hps hP hD hS hce hcv hcl => ?_) (fun H locs hph hP hD hS => ?_)
  · have hP : va_P E.1 vwCl ([[(ou, .inl (E.2 3, 1, .inr (.inl f)))], (z_W E xa na ma mb ad tx ln nx ct f0 f1 g ga gb v).flatten] : List va_W).flatten H := hP
    have hD : va_D A ([[(ou, .inl (E.2 3, 1, .inr (.inl f)))], (z_W E xa na ma mb ad tx ln nx ct f0 f1 g ga gb v).flatten] : List va_W).flatten := hD
    obtain ⟨eEx, hno⟩ := hps
    subst eEx
    refine vx_widen (k := 2) (n := 12) (by decide) (by decide) ?_
    refine vx_catch (own := RL) (name := zIA) hown [] ⟨0, 10, 13, 13⟩ [] (htab.trans rfl) (fun z hz => nomatch hz) (by decide) (by decide) (hts (.classLink RL 13 "java/lang/IllegalArgumentException") (by decide +kernel)) hT.cA hce hcv hcl ?_
    refine W.eq (g2 := F0 Mi 13 ls [.ref q9]) rfl ?_
    refine lv_astore (lv' := [(4, .ref q9), (0, .ref (xa 0)), (1, .int n), (2, .int p), (3, .ref ou)]) hx hb dL_altitudeAfter_13 hl (by decide) rfl (fun ls hl => ?_)
    refine lv_iconst (v := 1) hx hb dL_altitudeAfter_15 (by decide) ?_
    have hP : va_P E.1 vwCl ([(z_W E xa na ma mb ad tx ln nx ct f0 f1 g ga gb v).flatten, [(ou, .inl (E.2 3, 1, .inr (.inl f)))]] : List va_W).flatten H := zf_sub hP [1, 0] rfl
    have hD : va_D A ([(z_W E xa na ma mb ad tx ln nx ct f0 f1 g ga gb v).flatten, [(ou, .inl (E.2 3, 1, .inr (.inl f)))]] : List va_W).flatten := zf_subD hD [1, 0] (by decide) rfl
    exact W.iret (v := 1) hx hb hr (z_end hP hD hS rfl) hS.2.2 dL_altitudeAfter_16 hlocks
  have hP : va_P E.1 vwCl ([[(ou, .inl (E.2 3, 1, .inr (.inl f)))], (z_W E xa na ma mb ad tx ln nx ct f0 f1 g ga gb v).flatten] : List va_W).flatten H := hP
  have hD : va_D A ([[(ou, .inl (E.2 3, 1, .inr (.inl f)))], (z_W E xa na ma mb ad tx ln nx ct f0 f1 g ga gb v).flatten] : List va_W).flatten := hD
  refine W.widen (k := 2) (n := 12) (by decide) (by decide) ?_
  refine W.eq (g2 := F0 Mi 8 ls [.int (m_hatC g p), .int 0, .ref ou]) rfl ?_
  exact absurd hph hpq

set_option maxHeartbeats 4000000 in
set_option maxRecDepth 100000 in
theorem c_L_ascentIn_y (l : Launch) (E : zE) (sa : Nat → Nat) (hl0 : l.stackTraces = false) (ou : Nat) (f : Nat → Int64) (xa na ma mb : Nat → Nat) (ad : Nat → Nat → Nat) (tx : Nat → Int32) (ln nx ct f0 f1 : Int32) (g ga gb : Nat → Int32) (v : Nat → Nat → Int32) (hw : z_wk ln nx ct f0 f1 g ga gb v) (n p : Int32) (hpq : (1 ≤ n ∧ n ≤ 120) ∧ (5000 ≤ p ∧ p ≤ 11000)) : zMT l yL_ascentIn wsL_ascentIn ({ frames := 8, cells := 3, slots := 16, locals := 134 }) E sa [.ref (xa 0), .int n, .int p, .ref ou] ([(z_W E xa na ma mb ad tx ln nx ct f0 f1 g ga gb v).flatten, [(ou, .inl (E.2 3, 1, .inr (.inl f)))]] : List va_W).flatten (some (.int 0)) ([(z_W E xa na ma mb ad tx ln nx ct f0 f1 g ga gb v).flatten, [(ou, .inl (E.2 3, 1, .inr (.inl (vp_updL f 0 ((m_ascR g n p (m_n n))).toInt64))))]] : List va_W).flatten 3 16 := by
  refine z_startw (cc := cL_ascentIn) (maxL := 5) (ret := (some .int)) (hh := [(0, 10, 13, 13)]) (by decide) rfl (Nat.le_of_ble_eq_true rfl) ?_
  intro Pg En s Mi below meth Cd A hx hb hr hts hown hlocks hml htab hA hT hZ hN H hH hP hK hD hS ls hl
  have hl : lv_has ls 5 [(0, .ref (xa 0)), (1, .int n), (2, .int p), (3, .ref ou)] := hl
  refine lv_aload_n hx hb dL_ascentIn_0 rfl (lv_at hl 3 rfl) ?_
  refine lv_iconst (v := 0) hx hb dL_ascentIn_1 (by decide) ?_
  refine lv_aload_n hx hb dL_ascentIn_2 rfl (lv_at hl 0 rfl) ?_
  refine lv_iload_n hx hb dL_ascentIn_3 rfl (lv_at hl 1 rfl) ?_
  refine lv_iload_n hx hb dL_ascentIn_4 rfl (lv_at hl 2 rfl) ?_
  have hPc : va_P E.1 vwCl ([(z_W E xa na ma mb ad tx ln nx ct f0 f1 g ga gb v).flatten] : List va_W).flatten H := zf_sub hP [0] rfl
  have hDc : va_D A ([(z_W E xa na ma mb ad tx ln nx ct f0 f1 g ga gb v).flatten] : List va_W).flatten := zf_subD hD [0] (by decide) rfl
  refine z_xmut (Sc := [(z_W E xa na ma mb ad tx ln nx ct f0 f1 g ga gb v).flatten]) (Sr := [[(ou, .inl (E.2 3, 1, .inr (.inl f)))]]) (W1 := [(z_W E xa na ma mb ad tx ln nx ct f0 f1 g ga gb v).flatten]) (vx_runV (As := [.int n, .int p]) (rest := [.int 0, .ref ou]) ⟨hx, hb, hml, hown, hts⟩ (c_X9_ascentIn l E sa hl0 xa na ma mb ad tx ln nx ct f0 f1 g ga gb v hw n p H.size) (cwV 2 hts gL_ascentIn_X9_ascentIn rfl rfl rfl (by decide +kernel) ⟨Nat.le_of_ble_eq_true rfl, Nat.le_of_ble_eq_true rfl⟩) ⟨zPE.blind, va_recv hK.1 hPc (ci := 8) (q0 := 0) rfl rfl, z_preE hK hT hZ hS (zf_free hD hS hA [0] rfl) hPc hDc⟩ rfl rfl hl.1 rfl (lv_room (Nat.le_of_ble_eq_true rfl)) dL_ascentIn_5 ⟨Nat.le_of_ble_eq_true rfl, Nat.le_of_ble_eq_true rfl⟩) hP hD hS hA [0] [1] rfl rfl (by decide) (by decide) (fun Ex ce q9 H locs hps hP hD hS hce hcv hcl => ?_) (fun H locs hph hP hD hS => ?_)
  · have hP : va_P E.1 vwCl ([[(ou, .inl (E.2 3, 1, .inr (.inl f)))], (z_W E xa na ma mb ad tx ln nx ct f0 f1 g ga gb v).flatten] : List va_W).flatten H := hP
    have hD : va_D A ([[(ou, .inl (E.2 3, 1, .inr (.inl f)))], (z_W E xa na ma mb ad tx ln nx ct f0 f1 g ga gb v).flatten] : List va_W).flatten := hD
    exact absurd hpq hps.2
  have hP : va_P E.1 vwCl ([[(ou, .inl (E.2 3, 1, .inr (.inl f)))], (z_W E xa na ma mb ad tx ln nx ct f0 f1 g ga gb v).flatten] : List va_W).flatten H := hP
  have hD : va_D A ([[(ou, .inl (E.2 3, 1, .inr (.inl f)))], (z_W E xa na ma mb ad tx ln nx ct f0 f1 g ga gb v).flatten] : List va_W).flatten := hD
  refine W.widen (k := 3) (n := 16) (by decide) (by decide) ?_
  refine W.eq (g2 := F0 Mi 8 ls [.int (m_ascR g n p (m_n n)), .int 0, .ref ou]) rfl ?_
  refine lv_i2l hx hb dL_ascentIn_8 rfl ?_
  refine z_last (k := 0) hx hb hK.1 hP hD hS 0 rfl rfl (by decide) (by decide) dL_ascentIn_9 (fun H locs hP hD hS => ?_)
  have hP : va_P E.1 vwCl ([[(ou, .inl (E.2 3, 1, .inr (.inl (vp_updL f 0 (((m_ascR g n p (m_n n))).toInt64)))))], (z_W E xa na ma mb ad tx ln nx ct f0 f1 g ga gb v).flatten] : List va_W).flatten H := hP
  have hD : va_D A ([[(ou, .inl (E.2 3, 1, .inr (.inl (vp_updL f 0 (((m_ascR g n p (m_n n))).toInt64)))))], (z_W E xa na ma mb ad tx ln nx ct f0 f1 g ga gb v).flatten] : List va_W).flatten := hD
  refine lv_goto (tgt := 17) hx hb dL_ascentIn_10 (by decide) ?_
  refine lv_iconst (v := 0) hx hb dL_ascentIn_17 (by decide) ?_
  have hP : va_P E.1 vwCl ([(z_W E xa na ma mb ad tx ln nx ct f0 f1 g ga gb v).flatten, [(ou, .inl (E.2 3, 1, .inr (.inl (vp_updL f 0 (((m_ascR g n p (m_n n))).toInt64)))))]] : List va_W).flatten H := zf_sub hP [1, 0] rfl
  have hD : va_D A ([(z_W E xa na ma mb ad tx ln nx ct f0 f1 g ga gb v).flatten, [(ou, .inl (E.2 3, 1, .inr (.inl (vp_updL f 0 (((m_ascR g n p (m_n n))).toInt64)))))]] : List va_W).flatten := zf_subD hD [1, 0] (by decide) rfl
  exact W.iret (v := 0) hx hb hr (z_end hP hD hS rfl) hS.2.2 dL_ascentIn_18 hlocks

set_option maxHeartbeats 4000000 in
set_option maxRecDepth 100000 in
theorem c_L_ascentIn_n (l : Launch) (E : zE) (sa : Nat → Nat) (hl0 : l.stackTraces = false) (ou : Nat) (f : Nat → Int64) (xa na ma mb : Nat → Nat) (ad : Nat → Nat → Nat) (tx : Nat → Int32) (ln nx ct f0 f1 : Int32) (g ga gb : Nat → Int32) (v : Nat → Nat → Int32) (hw : z_wk ln nx ct f0 f1 g ga gb v) (n p : Int32) (hpq : ¬ ((1 ≤ n ∧ n ≤ 120) ∧ (5000 ≤ p ∧ p ≤ 11000))) : zMT l yL_ascentIn wsL_ascentIn ({ frames := 8, cells := 3, slots := 16, locals := 134 }) E sa [.ref (xa 0), .int n, .int p, .ref ou] ([(z_W E xa na ma mb ad tx ln nx ct f0 f1 g ga gb v).flatten, [(ou, .inl (E.2 3, 1, .inr (.inl f)))]] : List va_W).flatten (some (.int 1)) ([(z_W E xa na ma mb ad tx ln nx ct f0 f1 g ga gb v).flatten, [(ou, .inl (E.2 3, 1, .inr (.inl f)))]] : List va_W).flatten 3 16 := by
  refine z_startw (cc := cL_ascentIn) (maxL := 5) (ret := (some .int)) (hh := [(0, 10, 13, 13)]) (by decide) rfl (Nat.le_of_ble_eq_true rfl) ?_
  intro Pg En s Mi below meth Cd A hx hb hr hts hown hlocks hml htab hA hT hZ hN H hH hP hK hD hS ls hl
  have hl : lv_has ls 5 [(0, .ref (xa 0)), (1, .int n), (2, .int p), (3, .ref ou)] := hl
  refine lv_aload_n hx hb dL_ascentIn_0 rfl (lv_at hl 3 rfl) ?_
  refine lv_iconst (v := 0) hx hb dL_ascentIn_1 (by decide) ?_
  refine lv_aload_n hx hb dL_ascentIn_2 rfl (lv_at hl 0 rfl) ?_
  refine lv_iload_n hx hb dL_ascentIn_3 rfl (lv_at hl 1 rfl) ?_
  refine lv_iload_n hx hb dL_ascentIn_4 rfl (lv_at hl 2 rfl) ?_
  have hPc : va_P E.1 vwCl ([(z_W E xa na ma mb ad tx ln nx ct f0 f1 g ga gb v).flatten] : List va_W).flatten H := zf_sub hP [0] rfl
  have hDc : va_D A ([(z_W E xa na ma mb ad tx ln nx ct f0 f1 g ga gb v).flatten] : List va_W).flatten := zf_subD hD [0] (by decide) rfl
  refine z_xmut (Sc := [(z_W E xa na ma mb ad tx ln nx ct f0 f1 g ga gb v).flatten]) (Sr := [[(ou, .inl (E.2 3, 1, .inr (.inl f)))]]) (W1 := [(z_W E xa na ma mb ad tx ln nx ct f0 f1 g ga gb v).flatten]) (vx_runV (As := [.int n, .int p]) (rest := [.int 0, .ref ou]) ⟨hx, hb, hml, hown, hts⟩ (c_X9_ascentIn l E sa hl0 xa na ma mb ad tx ln nx ct f0 f1 g ga gb v hw n p H.size) (cwV 2 hts gL_ascentIn_X9_ascentIn rfl rfl rfl (by decide +kernel) ⟨Nat.le_of_ble_eq_true rfl, Nat.le_of_ble_eq_true rfl⟩) ⟨zPE.blind, va_recv hK.1 hPc (ci := 8) (q0 := 0) rfl rfl, z_preE hK hT hZ hS (zf_free hD hS hA [0] rfl) hPc hDc⟩ rfl rfl hl.1 rfl (lv_room (Nat.le_of_ble_eq_true rfl)) dL_ascentIn_5 ⟨Nat.le_of_ble_eq_true rfl, Nat.le_of_ble_eq_true rfl⟩) hP hD hS hA [0] [1] rfl rfl (by decide) (by decide) (fun Ex ce q9 H locs hps hP hD hS hce hcv hcl => ?_) (fun H locs hph hP hD hS => ?_)
  · have hP : va_P E.1 vwCl ([[(ou, .inl (E.2 3, 1, .inr (.inl f)))], (z_W E xa na ma mb ad tx ln nx ct f0 f1 g ga gb v).flatten] : List va_W).flatten H := hP
    have hD : va_D A ([[(ou, .inl (E.2 3, 1, .inr (.inl f)))], (z_W E xa na ma mb ad tx ln nx ct f0 f1 g ga gb v).flatten] : List va_W).flatten := hD
    obtain ⟨eEx, hno⟩ := hps
    subst eEx
    refine vx_widen (k := 3) (n := 16) (by decide) (by decide) ?_
    refine vx_catch (own := RL) (name := zIA) hown [] ⟨0, 10, 13, 13⟩ [] (htab.trans rfl) (fun z hz => nomatch hz) (by decide) (by decide) (hts (.classLink RL 13 "java/lang/IllegalArgumentException") (by decide +kernel)) hT.cA hce hcv hcl ?_
    refine W.eq (g2 := F0 Mi 13 ls [.ref q9]) rfl ?_
    refine lv_astore (lv' := [(4, .ref q9), (0, .ref (xa 0)), (1, .int n), (2, .int p), (3, .ref ou)]) hx hb dL_ascentIn_13 hl (by decide) rfl (fun ls hl => ?_)
    refine lv_iconst (v := 1) hx hb dL_ascentIn_15 (by decide) ?_
    have hP : va_P E.1 vwCl ([(z_W E xa na ma mb ad tx ln nx ct f0 f1 g ga gb v).flatten, [(ou, .inl (E.2 3, 1, .inr (.inl f)))]] : List va_W).flatten H := zf_sub hP [1, 0] rfl
    have hD : va_D A ([(z_W E xa na ma mb ad tx ln nx ct f0 f1 g ga gb v).flatten, [(ou, .inl (E.2 3, 1, .inr (.inl f)))]] : List va_W).flatten := zf_subD hD [1, 0] (by decide) rfl
    exact W.iret (v := 1) hx hb hr (z_end hP hD hS rfl) hS.2.2 dL_ascentIn_16 hlocks
  have hP : va_P E.1 vwCl ([[(ou, .inl (E.2 3, 1, .inr (.inl f)))], (z_W E xa na ma mb ad tx ln nx ct f0 f1 g ga gb v).flatten] : List va_W).flatten H := hP
  have hD : va_D A ([[(ou, .inl (E.2 3, 1, .inr (.inl f)))], (z_W E xa na ma mb ad tx ln nx ct f0 f1 g ga gb v).flatten] : List va_W).flatten := hD
  refine W.widen (k := 3) (n := 16) (by decide) (by decide) ?_
  refine W.eq (g2 := F0 Mi 8 ls [.int (m_ascR g n p (m_n n)), .int 0, .ref ou]) rfl ?_
  exact absurd hph hpq

set_option maxHeartbeats 4000000 in
set_option maxRecDepth 100000 in
theorem c_L_pressureAt_y (l : Launch) (E : zE) (sa : Nat → Nat) (hl0 : l.stackTraces = false) (ou : Nat) (f : Nat → Int64) (xa na ma mb : Nat → Nat) (ad : Nat → Nat → Nat) (tx : Nat → Int32) (ln nx ct f0 f1 : Int32) (g ga gb : Nat → Int32) (v : Nat → Nat → Int32) (hw : z_wk ln nx ct f0 f1 g ga gb v) (x : Int32) (hpq : -5000 ≤ x ∧ x ≤ 50000) : zMT l yL_pressureAt wsL_pressureAt ({ frames := 8, cells := 1, slots := 6, locals := 133 }) E sa [.ref (xa 0), .int x, .ref ou] ([(z_W E xa na ma mb ad tx ln nx ct f0 f1 g ga gb v).flatten, [(ou, .inl (E.2 3, 1, .inr (.inl f)))]] : List va_W).flatten (some (.int 0)) ([(z_W E xa na ma mb ad tx ln nx ct f0 f1 g ga gb v).flatten, [(ou, .inl (E.2 3, 1, .inr (.inl (vp_updL f 0 ((m_down (x + m_std (g 1)) 5000 6001)).toInt64))))]] : List va_W).flatten 1 6 := by
  refine z_startw (cc := cL_pressureAt) (maxL := 4) (ret := (some .int)) (hh := [(0, 9, 12, 13)]) (by decide) rfl (Nat.le_of_ble_eq_true rfl) ?_
  intro Pg En s Mi below meth Cd A hx hb hr hts hown hlocks hml htab hA hT hZ hN H hH hP hK hD hS ls hl
  have hl : lv_has ls 4 [(0, .ref (xa 0)), (1, .int x), (2, .ref ou)] := hl
  refine lv_aload_n hx hb dL_pressureAt_0 rfl (lv_at hl 2 rfl) ?_
  refine lv_iconst (v := 0) hx hb dL_pressureAt_1 (by decide) ?_
  refine lv_aload_n hx hb dL_pressureAt_2 rfl (lv_at hl 0 rfl) ?_
  refine lv_iload_n hx hb dL_pressureAt_3 rfl (lv_at hl 1 rfl) ?_
  have hPc : va_P E.1 vwCl ([(z_W E xa na ma mb ad tx ln nx ct f0 f1 g ga gb v).flatten] : List va_W).flatten H := zf_sub hP [0] rfl
  have hDc : va_D A ([(z_W E xa na ma mb ad tx ln nx ct f0 f1 g ga gb v).flatten] : List va_W).flatten := zf_subD hD [0] (by decide) rfl
  refine z_xmut (Sc := [(z_W E xa na ma mb ad tx ln nx ct f0 f1 g ga gb v).flatten]) (Sr := [[(ou, .inl (E.2 3, 1, .inr (.inl f)))]]) (W1 := [(z_W E xa na ma mb ad tx ln nx ct f0 f1 g ga gb v).flatten]) (vx_runV (As := [.int x]) (rest := [.int 0, .ref ou]) ⟨hx, hb, hml, hown, hts⟩ (c_X9_pressureAt l E sa hl0 xa na ma mb ad tx ln nx ct f0 f1 g ga gb v hw x H.size) (cwV 1 hts gL_pressureAt_X9_pressureAt rfl rfl rfl (by decide +kernel) ⟨Nat.le_of_ble_eq_true rfl, Nat.le_of_ble_eq_true rfl⟩) ⟨zPE.blind, va_recv hK.1 hPc (ci := 8) (q0 := 0) rfl rfl, z_preE hK hT hZ hS (zf_free hD hS hA [0] rfl) hPc hDc⟩ rfl rfl hl.1 rfl (lv_room (Nat.le_of_ble_eq_true rfl)) dL_pressureAt_4 ⟨Nat.le_of_ble_eq_true rfl, Nat.le_of_ble_eq_true rfl⟩) hP hD hS hA [0] [1] rfl rfl (by decide) (by decide) (fun Ex ce q9 H locs hps hP hD hS hce hcv hcl => ?_) (fun H locs hph hP hD hS => ?_)
  · have hP : va_P E.1 vwCl ([[(ou, .inl (E.2 3, 1, .inr (.inl f)))], (z_W E xa na ma mb ad tx ln nx ct f0 f1 g ga gb v).flatten] : List va_W).flatten H := hP
    have hD : va_D A ([[(ou, .inl (E.2 3, 1, .inr (.inl f)))], (z_W E xa na ma mb ad tx ln nx ct f0 f1 g ga gb v).flatten] : List va_W).flatten := hD
    exact absurd hpq hps.2
  have hP : va_P E.1 vwCl ([[(ou, .inl (E.2 3, 1, .inr (.inl f)))], (z_W E xa na ma mb ad tx ln nx ct f0 f1 g ga gb v).flatten] : List va_W).flatten H := hP
  have hD : va_D A ([[(ou, .inl (E.2 3, 1, .inr (.inl f)))], (z_W E xa na ma mb ad tx ln nx ct f0 f1 g ga gb v).flatten] : List va_W).flatten := hD
  refine W.widen (k := 1) (n := 6) (by decide) (by decide) ?_
  refine W.eq (g2 := F0 Mi 7 ls [.int (m_down (x + m_std (g 1)) 5000 6001), .int 0, .ref ou]) rfl ?_
  refine lv_i2l hx hb dL_pressureAt_7 rfl ?_
  refine z_last (k := 0) hx hb hK.1 hP hD hS 0 rfl rfl (by decide) (by decide) dL_pressureAt_8 (fun H locs hP hD hS => ?_)
  have hP : va_P E.1 vwCl ([[(ou, .inl (E.2 3, 1, .inr (.inl (vp_updL f 0 (((m_down (x + m_std (g 1)) 5000 6001)).toInt64)))))], (z_W E xa na ma mb ad tx ln nx ct f0 f1 g ga gb v).flatten] : List va_W).flatten H := hP
  have hD : va_D A ([[(ou, .inl (E.2 3, 1, .inr (.inl (vp_updL f 0 (((m_down (x + m_std (g 1)) 5000 6001)).toInt64)))))], (z_W E xa na ma mb ad tx ln nx ct f0 f1 g ga gb v).flatten] : List va_W).flatten := hD
  refine lv_goto (tgt := 15) hx hb dL_pressureAt_9 (by decide) ?_
  refine lv_iconst (v := 0) hx hb dL_pressureAt_15 (by decide) ?_
  have hP : va_P E.1 vwCl ([(z_W E xa na ma mb ad tx ln nx ct f0 f1 g ga gb v).flatten, [(ou, .inl (E.2 3, 1, .inr (.inl (vp_updL f 0 (((m_down (x + m_std (g 1)) 5000 6001)).toInt64)))))]] : List va_W).flatten H := zf_sub hP [1, 0] rfl
  have hD : va_D A ([(z_W E xa na ma mb ad tx ln nx ct f0 f1 g ga gb v).flatten, [(ou, .inl (E.2 3, 1, .inr (.inl (vp_updL f 0 (((m_down (x + m_std (g 1)) 5000 6001)).toInt64)))))]] : List va_W).flatten := zf_subD hD [1, 0] (by decide) rfl
  exact W.iret (v := 0) hx hb hr (z_end hP hD hS rfl) hS.2.2 dL_pressureAt_16 hlocks

set_option maxHeartbeats 4000000 in
set_option maxRecDepth 100000 in
theorem c_L_pressureAt_n (l : Launch) (E : zE) (sa : Nat → Nat) (hl0 : l.stackTraces = false) (ou : Nat) (f : Nat → Int64) (xa na ma mb : Nat → Nat) (ad : Nat → Nat → Nat) (tx : Nat → Int32) (ln nx ct f0 f1 : Int32) (g ga gb : Nat → Int32) (v : Nat → Nat → Int32) (hw : z_wk ln nx ct f0 f1 g ga gb v) (x : Int32) (hpq : ¬ (-5000 ≤ x ∧ x ≤ 50000)) : zMT l yL_pressureAt wsL_pressureAt ({ frames := 8, cells := 1, slots := 6, locals := 133 }) E sa [.ref (xa 0), .int x, .ref ou] ([(z_W E xa na ma mb ad tx ln nx ct f0 f1 g ga gb v).flatten, [(ou, .inl (E.2 3, 1, .inr (.inl f)))]] : List va_W).flatten (some (.int 1)) ([(z_W E xa na ma mb ad tx ln nx ct f0 f1 g ga gb v).flatten, [(ou, .inl (E.2 3, 1, .inr (.inl f)))]] : List va_W).flatten 1 6 := by
  refine z_startw (cc := cL_pressureAt) (maxL := 4) (ret := (some .int)) (hh := [(0, 9, 12, 13)]) (by decide) rfl (Nat.le_of_ble_eq_true rfl) ?_
  intro Pg En s Mi below meth Cd A hx hb hr hts hown hlocks hml htab hA hT hZ hN H hH hP hK hD hS ls hl
  have hl : lv_has ls 4 [(0, .ref (xa 0)), (1, .int x), (2, .ref ou)] := hl
  refine lv_aload_n hx hb dL_pressureAt_0 rfl (lv_at hl 2 rfl) ?_
  refine lv_iconst (v := 0) hx hb dL_pressureAt_1 (by decide) ?_
  refine lv_aload_n hx hb dL_pressureAt_2 rfl (lv_at hl 0 rfl) ?_
  refine lv_iload_n hx hb dL_pressureAt_3 rfl (lv_at hl 1 rfl) ?_
  have hPc : va_P E.1 vwCl ([(z_W E xa na ma mb ad tx ln nx ct f0 f1 g ga gb v).flatten] : List va_W).flatten H := zf_sub hP [0] rfl
  have hDc : va_D A ([(z_W E xa na ma mb ad tx ln nx ct f0 f1 g ga gb v).flatten] : List va_W).flatten := zf_subD hD [0] (by decide) rfl
  refine z_xmut (Sc := [(z_W E xa na ma mb ad tx ln nx ct f0 f1 g ga gb v).flatten]) (Sr := [[(ou, .inl (E.2 3, 1, .inr (.inl f)))]]) (W1 := [(z_W E xa na ma mb ad tx ln nx ct f0 f1 g ga gb v).flatten]) (vx_runV (As := [.int x]) (rest := [.int 0, .ref ou]) ⟨hx, hb, hml, hown, hts⟩ (c_X9_pressureAt l E sa hl0 xa na ma mb ad tx ln nx ct f0 f1 g ga gb v hw x H.size) (cwV 1 hts gL_pressureAt_X9_pressureAt rfl rfl rfl (by decide +kernel) ⟨Nat.le_of_ble_eq_true rfl, Nat.le_of_ble_eq_true rfl⟩) ⟨zPE.blind, va_recv hK.1 hPc (ci := 8) (q0 := 0) rfl rfl, z_preE hK hT hZ hS (zf_free hD hS hA [0] rfl) hPc hDc⟩ rfl rfl hl.1 rfl (lv_room (Nat.le_of_ble_eq_true rfl)) dL_pressureAt_4 ⟨Nat.le_of_ble_eq_true rfl, Nat.le_of_ble_eq_true rfl⟩) hP hD hS hA [0] [1] rfl rfl (by decide) (by decide) (fun Ex ce q9 H locs hps hP hD hS hce hcv hcl => ?_) (fun H locs hph hP hD hS => ?_)
  · have hP : va_P E.1 vwCl ([[(ou, .inl (E.2 3, 1, .inr (.inl f)))], (z_W E xa na ma mb ad tx ln nx ct f0 f1 g ga gb v).flatten] : List va_W).flatten H := hP
    have hD : va_D A ([[(ou, .inl (E.2 3, 1, .inr (.inl f)))], (z_W E xa na ma mb ad tx ln nx ct f0 f1 g ga gb v).flatten] : List va_W).flatten := hD
    obtain ⟨eEx, hno⟩ := hps
    subst eEx
    refine vx_widen (k := 1) (n := 6) (by decide) (by decide) ?_
    refine vx_catch (own := RL) (name := zIA) hown [] ⟨0, 9, 12, 13⟩ [] (htab.trans rfl) (fun z hz => nomatch hz) (by decide) (by decide) (hts (.classLink RL 13 "java/lang/IllegalArgumentException") (by decide +kernel)) hT.cA hce hcv hcl ?_
    refine W.eq (g2 := F0 Mi 12 ls [.ref q9]) rfl ?_
    refine lv_astore_n (lv' := [(3, .ref q9), (0, .ref (xa 0)), (1, .int x), (2, .ref ou)]) hx hb dL_pressureAt_12 rfl hl (by decide) rfl (fun ls hl => ?_)
    refine lv_iconst (v := 1) hx hb dL_pressureAt_13 (by decide) ?_
    have hP : va_P E.1 vwCl ([(z_W E xa na ma mb ad tx ln nx ct f0 f1 g ga gb v).flatten, [(ou, .inl (E.2 3, 1, .inr (.inl f)))]] : List va_W).flatten H := zf_sub hP [1, 0] rfl
    have hD : va_D A ([(z_W E xa na ma mb ad tx ln nx ct f0 f1 g ga gb v).flatten, [(ou, .inl (E.2 3, 1, .inr (.inl f)))]] : List va_W).flatten := zf_subD hD [1, 0] (by decide) rfl
    exact W.iret (v := 1) hx hb hr (z_end hP hD hS rfl) hS.2.2 dL_pressureAt_14 hlocks
  have hP : va_P E.1 vwCl ([[(ou, .inl (E.2 3, 1, .inr (.inl f)))], (z_W E xa na ma mb ad tx ln nx ct f0 f1 g ga gb v).flatten] : List va_W).flatten H := hP
  have hD : va_D A ([[(ou, .inl (E.2 3, 1, .inr (.inl f)))], (z_W E xa na ma mb ad tx ln nx ct f0 f1 g ga gb v).flatten] : List va_W).flatten := hD
  refine W.widen (k := 1) (n := 6) (by decide) (by decide) ?_
  refine W.eq (g2 := F0 Mi 7 ls [.int (m_down (x + m_std (g 1)) 5000 6001), .int 0, .ref ou]) rfl ?_
  exact absurd hph hpq

set_option maxHeartbeats 4000000 in
set_option maxRecDepth 100000 in
theorem c_L_minutesToAlarm_y (l : Launch) (E : zE) (sa : Nat → Nat) (hl0 : l.stackTraces = false) (ou : Nat) (f : Nat → Int64) (xa na ma mb : Nat → Nat) (ad : Nat → Nat → Nat) (tx : Nat → Int32) (ln nx ct f0 f1 : Int32) (g ga gb : Nat → Int32) (v : Nat → Nat → Int32) (hw : z_wk ln nx ct f0 f1 g ga gb v) (x : Int32) (hpq : 1 ≤ x ∧ x ≤ 20) : zMT l yL_minutesToAlarm wsL_minutesToAlarm ({ frames := 8, cells := 1, slots := 6, locals := 133 }) E sa [.ref (xa 0), .int x, .ref ou] ([(z_W E xa na ma mb ad tx ln nx ct f0 f1 g ga gb v).flatten, [(ou, .inl (E.2 3, 1, .inr (.inl f)))]] : List va_W).flatten (some (.int 0)) ([(z_W E xa na ma mb ad tx ln nx ct f0 f1 g ga gb v).flatten, [(ou, .inl (E.2 3, 1, .inr (.inl (vp_updL f 0 ((m_muC g x)).toInt64))))]] : List va_W).flatten 1 6 := by
  refine z_startw (cc := cL_minutesToAlarm) (maxL := 4) (ret := (some .int)) (hh := [(0, 9, 12, 13)]) (by decide) rfl (Nat.le_of_ble_eq_true rfl) ?_
  intro Pg En s Mi below meth Cd A hx hb hr hts hown hlocks hml htab hA hT hZ hN H hH hP hK hD hS ls hl
  have hl : lv_has ls 4 [(0, .ref (xa 0)), (1, .int x), (2, .ref ou)] := hl
  refine lv_aload_n hx hb dL_minutesToAlarm_0 rfl (lv_at hl 2 rfl) ?_
  refine lv_iconst (v := 0) hx hb dL_minutesToAlarm_1 (by decide) ?_
  refine lv_aload_n hx hb dL_minutesToAlarm_2 rfl (lv_at hl 0 rfl) ?_
  refine lv_iload_n hx hb dL_minutesToAlarm_3 rfl (lv_at hl 1 rfl) ?_
  have hPc : va_P E.1 vwCl ([(z_W E xa na ma mb ad tx ln nx ct f0 f1 g ga gb v).flatten] : List va_W).flatten H := zf_sub hP [0] rfl
  have hDc : va_D A ([(z_W E xa na ma mb ad tx ln nx ct f0 f1 g ga gb v).flatten] : List va_W).flatten := zf_subD hD [0] (by decide) rfl
  refine z_xmut (Sc := [(z_W E xa na ma mb ad tx ln nx ct f0 f1 g ga gb v).flatten]) (Sr := [[(ou, .inl (E.2 3, 1, .inr (.inl f)))]]) (W1 := [(z_W E xa na ma mb ad tx ln nx ct f0 f1 g ga gb v).flatten]) (vx_runV (As := [.int x]) (rest := [.int 0, .ref ou]) ⟨hx, hb, hml, hown, hts⟩ (c_X9_minutesToAlarm l E sa hl0 xa na ma mb ad tx ln nx ct f0 f1 g ga gb v hw x H.size) (cwV 1 hts gL_minutesToAlarm_X9_minutesToAlarm rfl rfl rfl (by decide +kernel) ⟨Nat.le_of_ble_eq_true rfl, Nat.le_of_ble_eq_true rfl⟩) ⟨zPE.blind, va_recv hK.1 hPc (ci := 8) (q0 := 0) rfl rfl, z_preE hK hT hZ hS (zf_free hD hS hA [0] rfl) hPc hDc⟩ rfl rfl hl.1 rfl (lv_room (Nat.le_of_ble_eq_true rfl)) dL_minutesToAlarm_4 ⟨Nat.le_of_ble_eq_true rfl, Nat.le_of_ble_eq_true rfl⟩) hP hD hS hA [0] [1] rfl rfl (by decide) (by decide) (fun Ex ce q9 H locs hps hP hD hS hce hcv hcl => ?_) (fun H locs hph hP hD hS => ?_)
  · have hP : va_P E.1 vwCl ([[(ou, .inl (E.2 3, 1, .inr (.inl f)))], (z_W E xa na ma mb ad tx ln nx ct f0 f1 g ga gb v).flatten] : List va_W).flatten H := hP
    have hD : va_D A ([[(ou, .inl (E.2 3, 1, .inr (.inl f)))], (z_W E xa na ma mb ad tx ln nx ct f0 f1 g ga gb v).flatten] : List va_W).flatten := hD
    exact absurd hpq hps.2
  have hP : va_P E.1 vwCl ([[(ou, .inl (E.2 3, 1, .inr (.inl f)))], (z_W E xa na ma mb ad tx ln nx ct f0 f1 g ga gb v).flatten] : List va_W).flatten H := hP
  have hD : va_D A ([[(ou, .inl (E.2 3, 1, .inr (.inl f)))], (z_W E xa na ma mb ad tx ln nx ct f0 f1 g ga gb v).flatten] : List va_W).flatten := hD
  refine W.widen (k := 1) (n := 6) (by decide) (by decide) ?_
  refine W.eq (g2 := F0 Mi 7 ls [.int (m_muC g x), .int 0, .ref ou]) rfl ?_
  refine lv_i2l hx hb dL_minutesToAlarm_7 rfl ?_
  refine z_last (k := 0) hx hb hK.1 hP hD hS 0 rfl rfl (by decide) (by decide) dL_minutesToAlarm_8 (fun H locs hP hD hS => ?_)
  have hP : va_P E.1 vwCl ([[(ou, .inl (E.2 3, 1, .inr (.inl (vp_updL f 0 (((m_muC g x)).toInt64)))))], (z_W E xa na ma mb ad tx ln nx ct f0 f1 g ga gb v).flatten] : List va_W).flatten H := hP
  have hD : va_D A ([[(ou, .inl (E.2 3, 1, .inr (.inl (vp_updL f 0 (((m_muC g x)).toInt64)))))], (z_W E xa na ma mb ad tx ln nx ct f0 f1 g ga gb v).flatten] : List va_W).flatten := hD
  refine lv_goto (tgt := 15) hx hb dL_minutesToAlarm_9 (by decide) ?_
  refine lv_iconst (v := 0) hx hb dL_minutesToAlarm_15 (by decide) ?_
  have hP : va_P E.1 vwCl ([(z_W E xa na ma mb ad tx ln nx ct f0 f1 g ga gb v).flatten, [(ou, .inl (E.2 3, 1, .inr (.inl (vp_updL f 0 (((m_muC g x)).toInt64)))))]] : List va_W).flatten H := zf_sub hP [1, 0] rfl
  have hD : va_D A ([(z_W E xa na ma mb ad tx ln nx ct f0 f1 g ga gb v).flatten, [(ou, .inl (E.2 3, 1, .inr (.inl (vp_updL f 0 (((m_muC g x)).toInt64)))))]] : List va_W).flatten := zf_subD hD [1, 0] (by decide) rfl
  exact W.iret (v := 0) hx hb hr (z_end hP hD hS rfl) hS.2.2 dL_minutesToAlarm_16 hlocks

set_option maxHeartbeats 4000000 in
set_option maxRecDepth 100000 in
theorem c_L_minutesToAlarm_n (l : Launch) (E : zE) (sa : Nat → Nat) (hl0 : l.stackTraces = false) (ou : Nat) (f : Nat → Int64) (xa na ma mb : Nat → Nat) (ad : Nat → Nat → Nat) (tx : Nat → Int32) (ln nx ct f0 f1 : Int32) (g ga gb : Nat → Int32) (v : Nat → Nat → Int32) (hw : z_wk ln nx ct f0 f1 g ga gb v) (x : Int32) (hpq : ¬ (1 ≤ x ∧ x ≤ 20)) : zMT l yL_minutesToAlarm wsL_minutesToAlarm ({ frames := 8, cells := 1, slots := 6, locals := 133 }) E sa [.ref (xa 0), .int x, .ref ou] ([(z_W E xa na ma mb ad tx ln nx ct f0 f1 g ga gb v).flatten, [(ou, .inl (E.2 3, 1, .inr (.inl f)))]] : List va_W).flatten (some (.int 1)) ([(z_W E xa na ma mb ad tx ln nx ct f0 f1 g ga gb v).flatten, [(ou, .inl (E.2 3, 1, .inr (.inl f)))]] : List va_W).flatten 1 6 := by
  refine z_startw (cc := cL_minutesToAlarm) (maxL := 4) (ret := (some .int)) (hh := [(0, 9, 12, 13)]) (by decide) rfl (Nat.le_of_ble_eq_true rfl) ?_
  intro Pg En s Mi below meth Cd A hx hb hr hts hown hlocks hml htab hA hT hZ hN H hH hP hK hD hS ls hl
  have hl : lv_has ls 4 [(0, .ref (xa 0)), (1, .int x), (2, .ref ou)] := hl
  refine lv_aload_n hx hb dL_minutesToAlarm_0 rfl (lv_at hl 2 rfl) ?_
  refine lv_iconst (v := 0) hx hb dL_minutesToAlarm_1 (by decide) ?_
  refine lv_aload_n hx hb dL_minutesToAlarm_2 rfl (lv_at hl 0 rfl) ?_
  refine lv_iload_n hx hb dL_minutesToAlarm_3 rfl (lv_at hl 1 rfl) ?_
  have hPc : va_P E.1 vwCl ([(z_W E xa na ma mb ad tx ln nx ct f0 f1 g ga gb v).flatten] : List va_W).flatten H := zf_sub hP [0] rfl
  have hDc : va_D A ([(z_W E xa na ma mb ad tx ln nx ct f0 f1 g ga gb v).flatten] : List va_W).flatten := zf_subD hD [0] (by decide) rfl
  refine z_xmut (Sc := [(z_W E xa na ma mb ad tx ln nx ct f0 f1 g ga gb v).flatten]) (Sr := [[(ou, .inl (E.2 3, 1, .inr (.inl f)))]]) (W1 := [(z_W E xa na ma mb ad tx ln nx ct f0 f1 g ga gb v).flatten]) (vx_runV (As := [.int x]) (rest := [.int 0, .ref ou]) ⟨hx, hb, hml, hown, hts⟩ (c_X9_minutesToAlarm l E sa hl0 xa na ma mb ad tx ln nx ct f0 f1 g ga gb v hw x H.size) (cwV 1 hts gL_minutesToAlarm_X9_minutesToAlarm rfl rfl rfl (by decide +kernel) ⟨Nat.le_of_ble_eq_true rfl, Nat.le_of_ble_eq_true rfl⟩) ⟨zPE.blind, va_recv hK.1 hPc (ci := 8) (q0 := 0) rfl rfl, z_preE hK hT hZ hS (zf_free hD hS hA [0] rfl) hPc hDc⟩ rfl rfl hl.1 rfl (lv_room (Nat.le_of_ble_eq_true rfl)) dL_minutesToAlarm_4 ⟨Nat.le_of_ble_eq_true rfl, Nat.le_of_ble_eq_true rfl⟩) hP hD hS hA [0] [1] rfl rfl (by decide) (by decide) (fun Ex ce q9 H locs hps hP hD hS hce hcv hcl => ?_) (fun H locs hph hP hD hS => ?_)
  · have hP : va_P E.1 vwCl ([[(ou, .inl (E.2 3, 1, .inr (.inl f)))], (z_W E xa na ma mb ad tx ln nx ct f0 f1 g ga gb v).flatten] : List va_W).flatten H := hP
    have hD : va_D A ([[(ou, .inl (E.2 3, 1, .inr (.inl f)))], (z_W E xa na ma mb ad tx ln nx ct f0 f1 g ga gb v).flatten] : List va_W).flatten := hD
    obtain ⟨eEx, hno⟩ := hps
    subst eEx
    refine vx_widen (k := 1) (n := 6) (by decide) (by decide) ?_
    refine vx_catch (own := RL) (name := zIA) hown [] ⟨0, 9, 12, 13⟩ [] (htab.trans rfl) (fun z hz => nomatch hz) (by decide) (by decide) (hts (.classLink RL 13 "java/lang/IllegalArgumentException") (by decide +kernel)) hT.cA hce hcv hcl ?_
    refine W.eq (g2 := F0 Mi 12 ls [.ref q9]) rfl ?_
    refine lv_astore_n (lv' := [(3, .ref q9), (0, .ref (xa 0)), (1, .int x), (2, .ref ou)]) hx hb dL_minutesToAlarm_12 rfl hl (by decide) rfl (fun ls hl => ?_)
    refine lv_iconst (v := 1) hx hb dL_minutesToAlarm_13 (by decide) ?_
    have hP : va_P E.1 vwCl ([(z_W E xa na ma mb ad tx ln nx ct f0 f1 g ga gb v).flatten, [(ou, .inl (E.2 3, 1, .inr (.inl f)))]] : List va_W).flatten H := zf_sub hP [1, 0] rfl
    have hD : va_D A ([(z_W E xa na ma mb ad tx ln nx ct f0 f1 g ga gb v).flatten, [(ou, .inl (E.2 3, 1, .inr (.inl f)))]] : List va_W).flatten := zf_subD hD [1, 0] (by decide) rfl
    exact W.iret (v := 1) hx hb hr (z_end hP hD hS rfl) hS.2.2 dL_minutesToAlarm_14 hlocks
  have hP : va_P E.1 vwCl ([[(ou, .inl (E.2 3, 1, .inr (.inl f)))], (z_W E xa na ma mb ad tx ln nx ct f0 f1 g ga gb v).flatten] : List va_W).flatten H := hP
  have hD : va_D A ([[(ou, .inl (E.2 3, 1, .inr (.inl f)))], (z_W E xa na ma mb ad tx ln nx ct f0 f1 g ga gb v).flatten] : List va_W).flatten := hD
  refine W.widen (k := 1) (n := 6) (by decide) (by decide) ?_
  refine W.eq (g2 := F0 Mi 7 ls [.int (m_muC g x), .int 0, .ref ou]) rfl ?_
  exact absurd hph hpq

set_option maxHeartbeats 4000000 in
set_option maxRecDepth 100000 in
theorem c_L_append_y (l : Launch) (E : zE) (sa : Nat → Nat) (hl0 : l.stackTraces = false) (ou : Nat) (f : Nat → Int64) (xa na ma mb : Nat → Nat) (ad : Nat → Nat → Nat) (tx : Nat → Int32) (ln nx ct f0 f1 : Int32) (g ga gb : Nat → Int32) (v : Nat → Nat → Int32) (hw : z_wk ln nx ct f0 f1 g ga gb v) (x : Int32) (hpq : (33 ≤ x ∧ x ≤ 126) ∧ ln < 60) : zMT l yL_append wsL_append ({ frames := 8, cells := 2, slots := 12, locals := 133 }) E sa [.ref (xa 0), .int x, .ref ou] ([(z_W E xa na ma mb ad tx ln nx ct f0 f1 g ga gb v).flatten, [(ou, .inl (E.2 3, 1, .inr (.inl f)))]] : List va_W).flatten (some (.int 0)) ([(z_W E xa na ma mb ad (upd tx (m_n ln) x) (ln + 1) nx ct f0 f1 g ga gb v).flatten, [(ou, .inl (E.2 3, 1, .inr (.inl (vp_updL f 0 ((ln + 1)).toInt64))))]] : List va_W).flatten 2 12 := by
  refine z_startw (cc := cL_append) (maxL := 4) (ret := (some .int)) (hh := [(0, 9, 12, 13), (0, 9, 15, 57)]) (by decide) rfl (Nat.le_of_ble_eq_true rfl) ?_
  intro Pg En s Mi below meth Cd A hx hb hr hts hown hlocks hml htab hA hT hZ hN H hH hP hK hD hS ls hl
  have hl : lv_has ls 4 [(0, .ref (xa 0)), (1, .int x), (2, .ref ou)] := hl
  refine lv_aload_n hx hb dL_append_0 rfl (lv_at hl 2 rfl) ?_
  refine lv_iconst (v := 0) hx hb dL_append_1 (by decide) ?_
  refine lv_aload_n hx hb dL_append_2 rfl (lv_at hl 0 rfl) ?_
  refine lv_iload_n hx hb dL_append_3 rfl (lv_at hl 1 rfl) ?_
  have hPc : va_P E.1 vwCl ([(z_W E xa na ma mb ad tx ln nx ct f0 f1 g ga gb v).flatten] : List va_W).flatten H := zf_sub hP [0] rfl
  have hDc : va_D A ([(z_W E xa na ma mb ad tx ln nx ct f0 f1 g ga gb v).flatten] : List va_W).flatten := zf_subD hD [0] (by decide) rfl
  refine z_xmut (Sc := [(z_W E xa na ma mb ad tx ln nx ct f0 f1 g ga gb v).flatten]) (Sr := [[(ou, .inl (E.2 3, 1, .inr (.inl f)))]]) (W1 := [(z_W E xa na ma mb ad (upd tx (m_n ln) x) (ln + 1) nx ct f0 f1 g ga gb v).flatten]) (vx_runV (As := [.int x]) (rest := [.int 0, .ref ou]) ⟨hx, hb, hml, hown, hts⟩ (c_X9_append l E sa hl0 xa na ma mb ad tx ln nx ct f0 f1 g ga gb v hw x H.size) (cwV 1 hts gL_append_X9_append rfl rfl rfl (by decide +kernel) ⟨Nat.le_of_ble_eq_true rfl, Nat.le_of_ble_eq_true rfl⟩) ⟨zPE.blind, va_recv hK.1 hPc (ci := 8) (q0 := 0) rfl rfl, z_preE hK hT hZ hS (zf_free hD hS hA [0] rfl) hPc hDc⟩ rfl rfl hl.1 rfl (lv_room (Nat.le_of_ble_eq_true rfl)) dL_append_4 ⟨Nat.le_of_ble_eq_true rfl, Nat.le_of_ble_eq_true rfl⟩) hP hD hS hA [0] [1] rfl rfl (by decide) (by decide) (fun Ex ce q9 H locs hps hP hD hS hce hcv hcl => ?_) (fun H locs hph hP hD hS => ?_)
  · have hP : va_P E.1 vwCl ([[(ou, .inl (E.2 3, 1, .inr (.inl f)))], (z_W E xa na ma mb ad tx ln nx ct f0 f1 g ga gb v).flatten] : List va_W).flatten H := hP
    have hD : va_D A ([[(ou, .inl (E.2 3, 1, .inr (.inl f)))], (z_W E xa na ma mb ad tx ln nx ct f0 f1 g ga gb v).flatten] : List va_W).flatten := hD
    exact (hps.elim (fun z => z.2 hpq.1) (fun z => z.2.2 hpq.2)).elim
  have hP : va_P E.1 vwCl ([[(ou, .inl (E.2 3, 1, .inr (.inl f)))], (z_W E xa na ma mb ad (upd tx (m_n ln) x) (ln + 1) nx ct f0 f1 g ga gb v).flatten] : List va_W).flatten H := hP
  have hD : va_D A ([[(ou, .inl (E.2 3, 1, .inr (.inl f)))], (z_W E xa na ma mb ad (upd tx (m_n ln) x) (ln + 1) nx ct f0 f1 g ga gb v).flatten] : List va_W).flatten := hD
  refine W.widen (k := 2) (n := 12) (by decide) (by decide) ?_
  refine W.eq (g2 := F0 Mi 7 ls [.int (ln + 1), .int 0, .ref ou]) rfl ?_
  refine lv_i2l hx hb dL_append_7 rfl ?_
  refine z_last (k := 0) hx hb hK.1 hP hD hS 0 rfl rfl (by decide) (by decide) dL_append_8 (fun H locs hP hD hS => ?_)
  have hP : va_P E.1 vwCl ([[(ou, .inl (E.2 3, 1, .inr (.inl (vp_updL f 0 (((ln + 1)).toInt64)))))], (z_W E xa na ma mb ad (upd tx (m_n ln) x) (ln + 1) nx ct f0 f1 g ga gb v).flatten] : List va_W).flatten H := hP
  have hD : va_D A ([[(ou, .inl (E.2 3, 1, .inr (.inl (vp_updL f 0 (((ln + 1)).toInt64)))))], (z_W E xa na ma mb ad (upd tx (m_n ln) x) (ln + 1) nx ct f0 f1 g ga gb v).flatten] : List va_W).flatten := hD
  refine lv_goto (tgt := 18) hx hb dL_append_9 (by decide) ?_
  refine lv_iconst (v := 0) hx hb dL_append_18 (by decide) ?_
  have hP : va_P E.1 vwCl ([(z_W E xa na ma mb ad (upd tx (m_n ln) x) (ln + 1) nx ct f0 f1 g ga gb v).flatten, [(ou, .inl (E.2 3, 1, .inr (.inl (vp_updL f 0 (((ln + 1)).toInt64)))))]] : List va_W).flatten H := zf_sub hP [1, 0] rfl
  have hD : va_D A ([(z_W E xa na ma mb ad (upd tx (m_n ln) x) (ln + 1) nx ct f0 f1 g ga gb v).flatten, [(ou, .inl (E.2 3, 1, .inr (.inl (vp_updL f 0 (((ln + 1)).toInt64)))))]] : List va_W).flatten := zf_subD hD [1, 0] (by decide) rfl
  exact W.iret (v := 0) hx hb hr (z_end hP hD hS rfl) hS.2.2 dL_append_19 hlocks

set_option maxHeartbeats 4000000 in
set_option maxRecDepth 100000 in
theorem c_L_append_n1 (l : Launch) (E : zE) (sa : Nat → Nat) (hl0 : l.stackTraces = false) (ou : Nat) (f : Nat → Int64) (xa na ma mb : Nat → Nat) (ad : Nat → Nat → Nat) (tx : Nat → Int32) (ln nx ct f0 f1 : Int32) (g ga gb : Nat → Int32) (v : Nat → Nat → Int32) (hw : z_wk ln nx ct f0 f1 g ga gb v) (x : Int32) (hpq : ¬ (33 ≤ x ∧ x ≤ 126)) : zMT l yL_append wsL_append ({ frames := 8, cells := 2, slots := 12, locals := 133 }) E sa [.ref (xa 0), .int x, .ref ou] ([(z_W E xa na ma mb ad tx ln nx ct f0 f1 g ga gb v).flatten, [(ou, .inl (E.2 3, 1, .inr (.inl f)))]] : List va_W).flatten (some (.int 1)) ([(z_W E xa na ma mb ad tx ln nx ct f0 f1 g ga gb v).flatten, [(ou, .inl (E.2 3, 1, .inr (.inl f)))]] : List va_W).flatten 2 12 := by
  refine z_startw (cc := cL_append) (maxL := 4) (ret := (some .int)) (hh := [(0, 9, 12, 13), (0, 9, 15, 57)]) (by decide) rfl (Nat.le_of_ble_eq_true rfl) ?_
  intro Pg En s Mi below meth Cd A hx hb hr hts hown hlocks hml htab hA hT hZ hN H hH hP hK hD hS ls hl
  have hl : lv_has ls 4 [(0, .ref (xa 0)), (1, .int x), (2, .ref ou)] := hl
  refine lv_aload_n hx hb dL_append_0 rfl (lv_at hl 2 rfl) ?_
  refine lv_iconst (v := 0) hx hb dL_append_1 (by decide) ?_
  refine lv_aload_n hx hb dL_append_2 rfl (lv_at hl 0 rfl) ?_
  refine lv_iload_n hx hb dL_append_3 rfl (lv_at hl 1 rfl) ?_
  have hPc : va_P E.1 vwCl ([(z_W E xa na ma mb ad tx ln nx ct f0 f1 g ga gb v).flatten] : List va_W).flatten H := zf_sub hP [0] rfl
  have hDc : va_D A ([(z_W E xa na ma mb ad tx ln nx ct f0 f1 g ga gb v).flatten] : List va_W).flatten := zf_subD hD [0] (by decide) rfl
  refine z_xmut (Sc := [(z_W E xa na ma mb ad tx ln nx ct f0 f1 g ga gb v).flatten]) (Sr := [[(ou, .inl (E.2 3, 1, .inr (.inl f)))]]) (W1 := [(z_W E xa na ma mb ad (upd tx (m_n ln) x) (ln + 1) nx ct f0 f1 g ga gb v).flatten]) (vx_runV (As := [.int x]) (rest := [.int 0, .ref ou]) ⟨hx, hb, hml, hown, hts⟩ (c_X9_append l E sa hl0 xa na ma mb ad tx ln nx ct f0 f1 g ga gb v hw x H.size) (cwV 1 hts gL_append_X9_append rfl rfl rfl (by decide +kernel) ⟨Nat.le_of_ble_eq_true rfl, Nat.le_of_ble_eq_true rfl⟩) ⟨zPE.blind, va_recv hK.1 hPc (ci := 8) (q0 := 0) rfl rfl, z_preE hK hT hZ hS (zf_free hD hS hA [0] rfl) hPc hDc⟩ rfl rfl hl.1 rfl (lv_room (Nat.le_of_ble_eq_true rfl)) dL_append_4 ⟨Nat.le_of_ble_eq_true rfl, Nat.le_of_ble_eq_true rfl⟩) hP hD hS hA [0] [1] rfl rfl (by decide) (by decide) (fun Ex ce q9 H locs hps hP hD hS hce hcv hcl => ?_) (fun H locs hph hP hD hS => ?_)
  · have hP : va_P E.1 vwCl ([[(ou, .inl (E.2 3, 1, .inr (.inl f)))], (z_W E xa na ma mb ad tx ln nx ct f0 f1 g ga gb v).flatten] : List va_W).flatten H := hP
    have hD : va_D A ([[(ou, .inl (E.2 3, 1, .inr (.inl f)))], (z_W E xa na ma mb ad tx ln nx ct f0 f1 g ga gb v).flatten] : List va_W).flatten := hD
    rcases hps with ⟨eEx, hno⟩ | ⟨eEx, hyes, -⟩
    · subst eEx
      refine vx_widen (k := 2) (n := 12) (by decide) (by decide) ?_
      refine vx_catch (own := RL) (name := zIA) hown [] ⟨0, 9, 12, 13⟩ [⟨0, 9, 15, 57⟩] (htab.trans rfl) (fun z hz => nomatch hz) (by decide) (by decide) (hts (.classLink RL 13 "java/lang/IllegalArgumentException") (by decide +kernel)) hT.cA hce hcv hcl ?_
      refine W.eq (g2 := F0 Mi 12 ls [.ref q9]) rfl ?_
      refine lv_astore_n (lv' := [(3, .ref q9), (0, .ref (xa 0)), (1, .int x), (2, .ref ou)]) hx hb dL_append_12 rfl hl (by decide) rfl (fun ls hl => ?_)
      refine lv_iconst (v := 1) hx hb dL_append_13 (by decide) ?_
      have hP : va_P E.1 vwCl ([(z_W E xa na ma mb ad tx ln nx ct f0 f1 g ga gb v).flatten, [(ou, .inl (E.2 3, 1, .inr (.inl f)))]] : List va_W).flatten H := zf_sub hP [1, 0] rfl
      have hD : va_D A ([(z_W E xa na ma mb ad tx ln nx ct f0 f1 g ga gb v).flatten, [(ou, .inl (E.2 3, 1, .inr (.inl f)))]] : List va_W).flatten := zf_subD hD [1, 0] (by decide) rfl
      exact W.iret (v := 1) hx hb hr (z_end hP hD hS rfl) hS.2.2 dL_append_14 hlocks
    · exact absurd hyes hpq
  have hP : va_P E.1 vwCl ([[(ou, .inl (E.2 3, 1, .inr (.inl f)))], (z_W E xa na ma mb ad (upd tx (m_n ln) x) (ln + 1) nx ct f0 f1 g ga gb v).flatten] : List va_W).flatten H := hP
  have hD : va_D A ([[(ou, .inl (E.2 3, 1, .inr (.inl f)))], (z_W E xa na ma mb ad (upd tx (m_n ln) x) (ln + 1) nx ct f0 f1 g ga gb v).flatten] : List va_W).flatten := hD
  refine W.widen (k := 2) (n := 12) (by decide) (by decide) ?_
  refine W.eq (g2 := F0 Mi 7 ls [.int (ln + 1), .int 0, .ref ou]) rfl ?_
  exact absurd hph.1 hpq

set_option maxHeartbeats 4000000 in
set_option maxRecDepth 100000 in
theorem c_L_append_n2 (l : Launch) (E : zE) (sa : Nat → Nat) (hl0 : l.stackTraces = false) (ou : Nat) (f : Nat → Int64) (xa na ma mb : Nat → Nat) (ad : Nat → Nat → Nat) (tx : Nat → Int32) (ln nx ct f0 f1 : Int32) (g ga gb : Nat → Int32) (v : Nat → Nat → Int32) (hw : z_wk ln nx ct f0 f1 g ga gb v) (x : Int32) (hpq : (33 ≤ x ∧ x ≤ 126) ∧ ¬ ln < 60) : zMT l yL_append wsL_append ({ frames := 8, cells := 2, slots := 12, locals := 133 }) E sa [.ref (xa 0), .int x, .ref ou] ([(z_W E xa na ma mb ad tx ln nx ct f0 f1 g ga gb v).flatten, [(ou, .inl (E.2 3, 1, .inr (.inl f)))]] : List va_W).flatten (some (.int 2)) ([(z_W E xa na ma mb ad tx ln nx ct f0 f1 g ga gb v).flatten, [(ou, .inl (E.2 3, 1, .inr (.inl f)))]] : List va_W).flatten 2 12 := by
  refine z_startw (cc := cL_append) (maxL := 4) (ret := (some .int)) (hh := [(0, 9, 12, 13), (0, 9, 15, 57)]) (by decide) rfl (Nat.le_of_ble_eq_true rfl) ?_
  intro Pg En s Mi below meth Cd A hx hb hr hts hown hlocks hml htab hA hT hZ hN H hH hP hK hD hS ls hl
  have hl : lv_has ls 4 [(0, .ref (xa 0)), (1, .int x), (2, .ref ou)] := hl
  refine lv_aload_n hx hb dL_append_0 rfl (lv_at hl 2 rfl) ?_
  refine lv_iconst (v := 0) hx hb dL_append_1 (by decide) ?_
  refine lv_aload_n hx hb dL_append_2 rfl (lv_at hl 0 rfl) ?_
  refine lv_iload_n hx hb dL_append_3 rfl (lv_at hl 1 rfl) ?_
  have hPc : va_P E.1 vwCl ([(z_W E xa na ma mb ad tx ln nx ct f0 f1 g ga gb v).flatten] : List va_W).flatten H := zf_sub hP [0] rfl
  have hDc : va_D A ([(z_W E xa na ma mb ad tx ln nx ct f0 f1 g ga gb v).flatten] : List va_W).flatten := zf_subD hD [0] (by decide) rfl
  refine z_xmut (Sc := [(z_W E xa na ma mb ad tx ln nx ct f0 f1 g ga gb v).flatten]) (Sr := [[(ou, .inl (E.2 3, 1, .inr (.inl f)))]]) (W1 := [(z_W E xa na ma mb ad (upd tx (m_n ln) x) (ln + 1) nx ct f0 f1 g ga gb v).flatten]) (vx_runV (As := [.int x]) (rest := [.int 0, .ref ou]) ⟨hx, hb, hml, hown, hts⟩ (c_X9_append l E sa hl0 xa na ma mb ad tx ln nx ct f0 f1 g ga gb v hw x H.size) (cwV 1 hts gL_append_X9_append rfl rfl rfl (by decide +kernel) ⟨Nat.le_of_ble_eq_true rfl, Nat.le_of_ble_eq_true rfl⟩) ⟨zPE.blind, va_recv hK.1 hPc (ci := 8) (q0 := 0) rfl rfl, z_preE hK hT hZ hS (zf_free hD hS hA [0] rfl) hPc hDc⟩ rfl rfl hl.1 rfl (lv_room (Nat.le_of_ble_eq_true rfl)) dL_append_4 ⟨Nat.le_of_ble_eq_true rfl, Nat.le_of_ble_eq_true rfl⟩) hP hD hS hA [0] [1] rfl rfl (by decide) (by decide) (fun Ex ce q9 H locs hps hP hD hS hce hcv hcl => ?_) (fun H locs hph hP hD hS => ?_)
  · have hP : va_P E.1 vwCl ([[(ou, .inl (E.2 3, 1, .inr (.inl f)))], (z_W E xa na ma mb ad tx ln nx ct f0 f1 g ga gb v).flatten] : List va_W).flatten H := hP
    have hD : va_D A ([[(ou, .inl (E.2 3, 1, .inr (.inl f)))], (z_W E xa na ma mb ad tx ln nx ct f0 f1 g ga gb v).flatten] : List va_W).flatten := hD
    rcases hps with ⟨eEx, hno⟩ | ⟨eEx, hyes, -⟩
    · exact absurd hpq.1 hno
    · subst eEx
      refine vx_widen (k := 2) (n := 12) (by decide) (by decide) ?_
      refine vx_catch (own := RL) (name := zIS) hown [⟨0, 9, 12, 13⟩] ⟨0, 9, 15, 57⟩ [] (htab.trans rfl) (fun z hz => by rcases List.mem_singleton.mp hz with rfl; exact Or.inr ⟨by decide, zIA, (hts (.classLink RL 13 "java/lang/IllegalArgumentException") (by decide +kernel)), hN⟩) (by decide) (by decide) (hts (.classLink RL 57 "java/lang/IllegalStateException") (by decide +kernel)) hT.cS hce hcv hcl ?_
      refine W.eq (g2 := F0 Mi 15 ls [.ref q9]) rfl ?_
      refine lv_astore_n (lv' := [(3, .ref q9), (0, .ref (xa 0)), (1, .int x), (2, .ref ou)]) hx hb dL_append_15 rfl hl (by decide) rfl (fun ls hl => ?_)
      refine lv_iconst (v := 2) hx hb dL_append_16 (by decide) ?_
      have hP : va_P E.1 vwCl ([(z_W E xa na ma mb ad tx ln nx ct f0 f1 g ga gb v).flatten, [(ou, .inl (E.2 3, 1, .inr (.inl f)))]] : List va_W).flatten H := zf_sub hP [1, 0] rfl
      have hD : va_D A ([(z_W E xa na ma mb ad tx ln nx ct f0 f1 g ga gb v).flatten, [(ou, .inl (E.2 3, 1, .inr (.inl f)))]] : List va_W).flatten := zf_subD hD [1, 0] (by decide) rfl
      exact W.iret (v := 2) hx hb hr (z_end hP hD hS rfl) hS.2.2 dL_append_17 hlocks
  have hP : va_P E.1 vwCl ([[(ou, .inl (E.2 3, 1, .inr (.inl f)))], (z_W E xa na ma mb ad (upd tx (m_n ln) x) (ln + 1) nx ct f0 f1 g ga gb v).flatten] : List va_W).flatten H := hP
  have hD : va_D A ([[(ou, .inl (E.2 3, 1, .inr (.inl f)))], (z_W E xa na ma mb ad (upd tx (m_n ln) x) (ln + 1) nx ct f0 f1 g ga gb v).flatten] : List va_W).flatten := hD
  refine W.widen (k := 2) (n := 12) (by decide) (by decide) ?_
  refine W.eq (g2 := F0 Mi 7 ls [.int (ln + 1), .int 0, .ref ou]) rfl ?_
  exact absurd hph.2 hpq.2

set_option maxHeartbeats 4000000 in
set_option maxRecDepth 100000 in
theorem c_L_run_y (l : Launch) (E : zE) (sa : Nat → Nat) (hl0 : l.stackTraces = false) (ou : Nat) (f : Nat → Int64) (xa na ma mb : Nat → Nat) (ad : Nat → Nat → Nat) (tx : Nat → Int32) (ln nx ct f0 f1 : Int32) (g ga gb : Nat → Int32) (v : Nat → Nat → Int32) (hw : z_wk ln nx ct f0 f1 g ga gb v) (hpq : m_whole tx (m_n ln)) : zMT l yL_run wsL_run ({ frames := 8, cells := 2, slots := 9, locals := 174 }) E sa [.ref (xa 0), .ref ou] ([(z_W E xa na ma mb ad tx ln nx ct f0 f1 g ga gb v).flatten, [(ou, .inl (E.2 3, 1, .inr (.inl f)))]] : List va_W).flatten (some (.int 0)) ([(z_W E xa na ma mb ad tx 0 (nI ((m_n nx + 1) % 6)) (nI (if m_n ct < 6 then m_n ct + 1 else 6)) f0 f1 (m_endC g tx (m_n ln)) ga gb (va_up v (m_n nx) g)).flatten, [(ou, .inl (E.2 3, 1, .inr (.inl (vp_updL f 0 ((m_std ((m_endC g tx (m_n ln)) 0) - m_std ((m_endC g tx (m_n ln)) 1))).toInt64))))]] : List va_W).flatten 2 9 := by
  refine z_startw (cc := cL_run) (maxL := 3) (ret := (some .int)) (hh := [(0, 8, 11, 13)]) (by decide) rfl (Nat.le_of_ble_eq_true rfl) ?_
  intro Pg En s Mi below meth Cd A hx hb hr hts hown hlocks hml htab hA hT hZ hN H hH hP hK hD hS ls hl
  have hl : lv_has ls 3 [(0, .ref (xa 0)), (1, .ref ou)] := hl
  refine lv_aload_n hx hb dL_run_0 rfl (lv_at hl 1 rfl) ?_
  refine lv_iconst (v := 0) hx hb dL_run_1 (by decide) ?_
  refine lv_aload_n hx hb dL_run_2 rfl (lv_at hl 0 rfl) ?_
  have hPc : va_P E.1 vwCl ([(z_W E xa na ma mb ad tx ln nx ct f0 f1 g ga gb v).flatten] : List va_W).flatten H := zf_sub hP [0] rfl
  have hDc : va_D A ([(z_W E xa na ma mb ad tx ln nx ct f0 f1 g ga gb v).flatten] : List va_W).flatten := zf_subD hD [0] (by decide) rfl
  refine z_xmut (Sc := [(z_W E xa na ma mb ad tx ln nx ct f0 f1 g ga gb v).flatten]) (Sr := [[(ou, .inl (E.2 3, 1, .inr (.inl f)))]]) (W1 := [(z_W E xa na ma mb ad tx 0 (nI ((m_n nx + 1) % 6)) (nI (if m_n ct < 6 then m_n ct + 1 else 6)) f0 f1 (m_endC g tx (m_n ln)) ga gb (va_up v (m_n nx) g)).flatten]) (vx_runV (As := []) (rest := [.int 0, .ref ou]) ⟨hx, hb, hml, hown, hts⟩ (c_X9_run l E sa hl0 xa na ma mb ad tx ln nx ct f0 f1 g ga gb v hw  H.size) (cwV 0 hts gL_run_X9_run rfl rfl rfl (by decide +kernel) ⟨Nat.le_of_ble_eq_true rfl, Nat.le_of_ble_eq_true rfl⟩) ⟨zPE.blind, va_recv hK.1 hPc (ci := 8) (q0 := 0) rfl rfl, z_preE hK hT hZ hS (zf_free hD hS hA [0] rfl) hPc hDc⟩ rfl rfl hl.1 rfl (lv_room (Nat.le_of_ble_eq_true rfl)) dL_run_3 ⟨Nat.le_of_ble_eq_true rfl, Nat.le_of_ble_eq_true rfl⟩) hP hD hS hA [0] [1] rfl rfl (by decide) (by decide) (fun Ex ce q9 H locs hps hP hD hS hce hcv hcl => ?_) (fun H locs hph hP hD hS => ?_)
  · have hP : va_P E.1 vwCl ([[(ou, .inl (E.2 3, 1, .inr (.inl f)))], (z_W E xa na ma mb ad tx ln nx ct f0 f1 g ga gb v).flatten] : List va_W).flatten H := hP
    have hD : va_D A ([[(ou, .inl (E.2 3, 1, .inr (.inl f)))], (z_W E xa na ma mb ad tx ln nx ct f0 f1 g ga gb v).flatten] : List va_W).flatten := hD
    exact absurd hpq hps.2
  have hP : va_P E.1 vwCl ([[(ou, .inl (E.2 3, 1, .inr (.inl f)))], (z_W E xa na ma mb ad tx 0 (nI ((m_n nx + 1) % 6)) (nI (if m_n ct < 6 then m_n ct + 1 else 6)) f0 f1 (m_endC g tx (m_n ln)) ga gb (va_up v (m_n nx) g)).flatten] : List va_W).flatten H := hP
  have hD : va_D A ([[(ou, .inl (E.2 3, 1, .inr (.inl f)))], (z_W E xa na ma mb ad tx 0 (nI ((m_n nx + 1) % 6)) (nI (if m_n ct < 6 then m_n ct + 1 else 6)) f0 f1 (m_endC g tx (m_n ln)) ga gb (va_up v (m_n nx) g)).flatten] : List va_W).flatten := hD
  refine W.widen (k := 2) (n := 9) (by decide) (by decide) ?_
  refine W.eq (g2 := F0 Mi 6 ls [.int (m_std ((m_endC g tx (m_n ln)) 0) - m_std ((m_endC g tx (m_n ln)) 1)), .int 0, .ref ou]) rfl ?_
  refine lv_i2l hx hb dL_run_6 rfl ?_
  refine z_last (k := 0) hx hb hK.1 hP hD hS 0 rfl rfl (by decide) (by decide) dL_run_7 (fun H locs hP hD hS => ?_)
  have hP : va_P E.1 vwCl ([[(ou, .inl (E.2 3, 1, .inr (.inl (vp_updL f 0 (((m_std ((m_endC g tx (m_n ln)) 0) - m_std ((m_endC g tx (m_n ln)) 1))).toInt64)))))], (z_W E xa na ma mb ad tx 0 (nI ((m_n nx + 1) % 6)) (nI (if m_n ct < 6 then m_n ct + 1 else 6)) f0 f1 (m_endC g tx (m_n ln)) ga gb (va_up v (m_n nx) g)).flatten] : List va_W).flatten H := hP
  have hD : va_D A ([[(ou, .inl (E.2 3, 1, .inr (.inl (vp_updL f 0 (((m_std ((m_endC g tx (m_n ln)) 0) - m_std ((m_endC g tx (m_n ln)) 1))).toInt64)))))], (z_W E xa na ma mb ad tx 0 (nI ((m_n nx + 1) % 6)) (nI (if m_n ct < 6 then m_n ct + 1 else 6)) f0 f1 (m_endC g tx (m_n ln)) ga gb (va_up v (m_n nx) g)).flatten] : List va_W).flatten := hD
  refine lv_goto (tgt := 14) hx hb dL_run_8 (by decide) ?_
  refine lv_iconst (v := 0) hx hb dL_run_14 (by decide) ?_
  have hP : va_P E.1 vwCl ([(z_W E xa na ma mb ad tx 0 (nI ((m_n nx + 1) % 6)) (nI (if m_n ct < 6 then m_n ct + 1 else 6)) f0 f1 (m_endC g tx (m_n ln)) ga gb (va_up v (m_n nx) g)).flatten, [(ou, .inl (E.2 3, 1, .inr (.inl (vp_updL f 0 (((m_std ((m_endC g tx (m_n ln)) 0) - m_std ((m_endC g tx (m_n ln)) 1))).toInt64)))))]] : List va_W).flatten H := zf_sub hP [1, 0] rfl
  have hD : va_D A ([(z_W E xa na ma mb ad tx 0 (nI ((m_n nx + 1) % 6)) (nI (if m_n ct < 6 then m_n ct + 1 else 6)) f0 f1 (m_endC g tx (m_n ln)) ga gb (va_up v (m_n nx) g)).flatten, [(ou, .inl (E.2 3, 1, .inr (.inl (vp_updL f 0 (((m_std ((m_endC g tx (m_n ln)) 0) - m_std ((m_endC g tx (m_n ln)) 1))).toInt64)))))]] : List va_W).flatten := zf_subD hD [1, 0] (by decide) rfl
  exact W.iret (v := 0) hx hb hr (z_end hP hD hS rfl) hS.2.2 dL_run_15 hlocks

set_option maxHeartbeats 4000000 in
set_option maxRecDepth 100000 in
theorem c_L_run_n (l : Launch) (E : zE) (sa : Nat → Nat) (hl0 : l.stackTraces = false) (ou : Nat) (f : Nat → Int64) (xa na ma mb : Nat → Nat) (ad : Nat → Nat → Nat) (tx : Nat → Int32) (ln nx ct f0 f1 : Int32) (g ga gb : Nat → Int32) (v : Nat → Nat → Int32) (hw : z_wk ln nx ct f0 f1 g ga gb v) (hpq : ¬ (m_whole tx (m_n ln))) : zMT l yL_run wsL_run ({ frames := 8, cells := 2, slots := 9, locals := 174 }) E sa [.ref (xa 0), .ref ou] ([(z_W E xa na ma mb ad tx ln nx ct f0 f1 g ga gb v).flatten, [(ou, .inl (E.2 3, 1, .inr (.inl f)))]] : List va_W).flatten (some (.int 1)) ([(z_W E xa na ma mb ad tx ln nx ct f0 f1 g ga gb v).flatten, [(ou, .inl (E.2 3, 1, .inr (.inl f)))]] : List va_W).flatten 2 9 := by
  refine z_startw (cc := cL_run) (maxL := 3) (ret := (some .int)) (hh := [(0, 8, 11, 13)]) (by decide) rfl (Nat.le_of_ble_eq_true rfl) ?_
  intro Pg En s Mi below meth Cd A hx hb hr hts hown hlocks hml htab hA hT hZ hN H hH hP hK hD hS ls hl
  have hl : lv_has ls 3 [(0, .ref (xa 0)), (1, .ref ou)] := hl
  refine lv_aload_n hx hb dL_run_0 rfl (lv_at hl 1 rfl) ?_
  refine lv_iconst (v := 0) hx hb dL_run_1 (by decide) ?_
  refine lv_aload_n hx hb dL_run_2 rfl (lv_at hl 0 rfl) ?_
  have hPc : va_P E.1 vwCl ([(z_W E xa na ma mb ad tx ln nx ct f0 f1 g ga gb v).flatten] : List va_W).flatten H := zf_sub hP [0] rfl
  have hDc : va_D A ([(z_W E xa na ma mb ad tx ln nx ct f0 f1 g ga gb v).flatten] : List va_W).flatten := zf_subD hD [0] (by decide) rfl
  refine z_xmut (Sc := [(z_W E xa na ma mb ad tx ln nx ct f0 f1 g ga gb v).flatten]) (Sr := [[(ou, .inl (E.2 3, 1, .inr (.inl f)))]]) (W1 := [(z_W E xa na ma mb ad tx 0 (nI ((m_n nx + 1) % 6)) (nI (if m_n ct < 6 then m_n ct + 1 else 6)) f0 f1 (m_endC g tx (m_n ln)) ga gb (va_up v (m_n nx) g)).flatten]) (vx_runV (As := []) (rest := [.int 0, .ref ou]) ⟨hx, hb, hml, hown, hts⟩ (c_X9_run l E sa hl0 xa na ma mb ad tx ln nx ct f0 f1 g ga gb v hw  H.size) (cwV 0 hts gL_run_X9_run rfl rfl rfl (by decide +kernel) ⟨Nat.le_of_ble_eq_true rfl, Nat.le_of_ble_eq_true rfl⟩) ⟨zPE.blind, va_recv hK.1 hPc (ci := 8) (q0 := 0) rfl rfl, z_preE hK hT hZ hS (zf_free hD hS hA [0] rfl) hPc hDc⟩ rfl rfl hl.1 rfl (lv_room (Nat.le_of_ble_eq_true rfl)) dL_run_3 ⟨Nat.le_of_ble_eq_true rfl, Nat.le_of_ble_eq_true rfl⟩) hP hD hS hA [0] [1] rfl rfl (by decide) (by decide) (fun Ex ce q9 H locs hps hP hD hS hce hcv hcl => ?_) (fun H locs hph hP hD hS => ?_)
  · have hP : va_P E.1 vwCl ([[(ou, .inl (E.2 3, 1, .inr (.inl f)))], (z_W E xa na ma mb ad tx ln nx ct f0 f1 g ga gb v).flatten] : List va_W).flatten H := hP
    have hD : va_D A ([[(ou, .inl (E.2 3, 1, .inr (.inl f)))], (z_W E xa na ma mb ad tx ln nx ct f0 f1 g ga gb v).flatten] : List va_W).flatten := hD
    obtain ⟨eEx, hno⟩ := hps
    subst eEx
    refine vx_widen (k := 2) (n := 9) (by decide) (by decide) ?_
    refine vx_catch (own := RL) (name := zIA) hown [] ⟨0, 8, 11, 13⟩ [] (htab.trans rfl) (fun z hz => nomatch hz) (by decide) (by decide) (hts (.classLink RL 13 "java/lang/IllegalArgumentException") (by decide +kernel)) hT.cA hce hcv hcl ?_
    refine W.eq (g2 := F0 Mi 11 ls [.ref q9]) rfl ?_
    refine lv_astore_n (lv' := [(2, .ref q9), (0, .ref (xa 0)), (1, .ref ou)]) hx hb dL_run_11 rfl hl (by decide) rfl (fun ls hl => ?_)
    refine lv_iconst (v := 1) hx hb dL_run_12 (by decide) ?_
    have hP : va_P E.1 vwCl ([(z_W E xa na ma mb ad tx ln nx ct f0 f1 g ga gb v).flatten, [(ou, .inl (E.2 3, 1, .inr (.inl f)))]] : List va_W).flatten H := zf_sub hP [1, 0] rfl
    have hD : va_D A ([(z_W E xa na ma mb ad tx ln nx ct f0 f1 g ga gb v).flatten, [(ou, .inl (E.2 3, 1, .inr (.inl f)))]] : List va_W).flatten := zf_subD hD [1, 0] (by decide) rfl
    exact W.iret (v := 1) hx hb hr (z_end hP hD hS rfl) hS.2.2 dL_run_13 hlocks
  have hP : va_P E.1 vwCl ([[(ou, .inl (E.2 3, 1, .inr (.inl f)))], (z_W E xa na ma mb ad tx 0 (nI ((m_n nx + 1) % 6)) (nI (if m_n ct < 6 then m_n ct + 1 else 6)) f0 f1 (m_endC g tx (m_n ln)) ga gb (va_up v (m_n nx) g)).flatten] : List va_W).flatten H := hP
  have hD : va_D A ([[(ou, .inl (E.2 3, 1, .inr (.inl f)))], (z_W E xa na ma mb ad tx 0 (nI ((m_n nx + 1) % 6)) (nI (if m_n ct < 6 then m_n ct + 1 else 6)) f0 f1 (m_endC g tx (m_n ln)) ga gb (va_up v (m_n nx) g)).flatten] : List va_W).flatten := hD
  refine W.widen (k := 2) (n := 9) (by decide) (by decide) ?_
  refine W.eq (g2 := F0 Mi 6 ls [.int (m_std ((m_endC g tx (m_n ln)) 0) - m_std ((m_endC g tx (m_n ln)) 1)), .int 0, .ref ou]) rfl ?_
  exact absurd hph hpq

set_option maxHeartbeats 4000000 in
set_option maxRecDepth 100000 in
theorem c_L_undo_y (l : Launch) (E : zE) (sa : Nat → Nat) (hl0 : l.stackTraces = false) (ou : Nat) (f : Nat → Int64) (xa na ma mb : Nat → Nat) (ad : Nat → Nat → Nat) (tx : Nat → Int32) (ln nx ct f0 f1 : Int32) (g ga gb : Nat → Int32) (v : Nat → Nat → Int32) (hw : z_wk ln nx ct f0 f1 g ga gb v) (hpq : ¬ ct = 0) : zMT l yL_undo wsL_undo ({ frames := 7, cells := 1, slots := 6, locals := 132 }) E sa [.ref (xa 0), .ref ou] ([(z_W E xa na ma mb ad tx ln nx ct f0 f1 g ga gb v).flatten, [(ou, .inl (E.2 3, 1, .inr (.inl f)))]] : List va_W).flatten (some (.int 0)) ([(z_W E xa na ma mb ad tx ln (nI ((m_n nx + 5) % 6)) (nI (m_n ct - 1)) f0 f1 (v ((m_n nx + 5) % 6)) ga gb v).flatten, [(ou, .inl (E.2 3, 1, .inr (.inl (vp_updL f 0 ((nI (m_n ct - 1))).toInt64))))]] : List va_W).flatten 1 6 := by
  refine z_startw (cc := cL_undo) (maxL := 3) (ret := (some .int)) (hh := [(0, 8, 11, 57)]) (by decide) rfl (Nat.le_of_ble_eq_true rfl) ?_
  intro Pg En s Mi below meth Cd A hx hb hr hts hown hlocks hml htab hA hT hZ hN H hH hP hK hD hS ls hl
  have hl : lv_has ls 3 [(0, .ref (xa 0)), (1, .ref ou)] := hl
  refine lv_aload_n hx hb dL_undo_0 rfl (lv_at hl 1 rfl) ?_
  refine lv_iconst (v := 0) hx hb dL_undo_1 (by decide) ?_
  refine lv_aload_n hx hb dL_undo_2 rfl (lv_at hl 0 rfl) ?_
  have hPc : va_P E.1 vwCl ([(z_W E xa na ma mb ad tx ln nx ct f0 f1 g ga gb v).flatten] : List va_W).flatten H := zf_sub hP [0] rfl
  have hDc : va_D A ([(z_W E xa na ma mb ad tx ln nx ct f0 f1 g ga gb v).flatten] : List va_W).flatten := zf_subD hD [0] (by decide) rfl
  refine z_xmut (Sc := [(z_W E xa na ma mb ad tx ln nx ct f0 f1 g ga gb v).flatten]) (Sr := [[(ou, .inl (E.2 3, 1, .inr (.inl f)))]]) (W1 := [(z_W E xa na ma mb ad tx ln (nI ((m_n nx + 5) % 6)) (nI (m_n ct - 1)) f0 f1 (v ((m_n nx + 5) % 6)) ga gb v).flatten]) (vx_runV (As := []) (rest := [.int 0, .ref ou]) ⟨hx, hb, hml, hown, hts⟩ (c_X9_undo l E sa hl0 xa na ma mb ad tx ln nx ct f0 f1 g ga gb v hw  H.size) (cwV 0 hts gL_undo_X9_undo rfl rfl rfl (by decide +kernel) ⟨Nat.le_of_ble_eq_true rfl, Nat.le_of_ble_eq_true rfl⟩) ⟨zPE.blind, va_recv hK.1 hPc (ci := 8) (q0 := 0) rfl rfl, z_preE hK hT hZ hS (zf_free hD hS hA [0] rfl) hPc hDc⟩ rfl rfl hl.1 rfl (lv_room (Nat.le_of_ble_eq_true rfl)) dL_undo_3 ⟨Nat.le_of_ble_eq_true rfl, Nat.le_of_ble_eq_true rfl⟩) hP hD hS hA [0] [1] rfl rfl (by decide) (by decide) (fun Ex ce q9 H locs hps hP hD hS hce hcv hcl => ?_) (fun H locs hph hP hD hS => ?_)
  · have hP : va_P E.1 vwCl ([[(ou, .inl (E.2 3, 1, .inr (.inl f)))], (z_W E xa na ma mb ad tx ln nx ct f0 f1 g ga gb v).flatten] : List va_W).flatten H := hP
    have hD : va_D A ([[(ou, .inl (E.2 3, 1, .inr (.inl f)))], (z_W E xa na ma mb ad tx ln nx ct f0 f1 g ga gb v).flatten] : List va_W).flatten := hD
    exact absurd hps.2 hpq
  have hP : va_P E.1 vwCl ([[(ou, .inl (E.2 3, 1, .inr (.inl f)))], (z_W E xa na ma mb ad tx ln (nI ((m_n nx + 5) % 6)) (nI (m_n ct - 1)) f0 f1 (v ((m_n nx + 5) % 6)) ga gb v).flatten] : List va_W).flatten H := hP
  have hD : va_D A ([[(ou, .inl (E.2 3, 1, .inr (.inl f)))], (z_W E xa na ma mb ad tx ln (nI ((m_n nx + 5) % 6)) (nI (m_n ct - 1)) f0 f1 (v ((m_n nx + 5) % 6)) ga gb v).flatten] : List va_W).flatten := hD
  refine W.widen (k := 1) (n := 6) (by decide) (by decide) ?_
  refine W.eq (g2 := F0 Mi 6 ls [.int (nI (m_n ct - 1)), .int 0, .ref ou]) rfl ?_
  refine lv_i2l hx hb dL_undo_6 rfl ?_
  refine z_last (k := 0) hx hb hK.1 hP hD hS 0 rfl rfl (by decide) (by decide) dL_undo_7 (fun H locs hP hD hS => ?_)
  have hP : va_P E.1 vwCl ([[(ou, .inl (E.2 3, 1, .inr (.inl (vp_updL f 0 (((nI (m_n ct - 1))).toInt64)))))], (z_W E xa na ma mb ad tx ln (nI ((m_n nx + 5) % 6)) (nI (m_n ct - 1)) f0 f1 (v ((m_n nx + 5) % 6)) ga gb v).flatten] : List va_W).flatten H := hP
  have hD : va_D A ([[(ou, .inl (E.2 3, 1, .inr (.inl (vp_updL f 0 (((nI (m_n ct - 1))).toInt64)))))], (z_W E xa na ma mb ad tx ln (nI ((m_n nx + 5) % 6)) (nI (m_n ct - 1)) f0 f1 (v ((m_n nx + 5) % 6)) ga gb v).flatten] : List va_W).flatten := hD
  refine lv_goto (tgt := 14) hx hb dL_undo_8 (by decide) ?_
  refine lv_iconst (v := 0) hx hb dL_undo_14 (by decide) ?_
  have hP : va_P E.1 vwCl ([(z_W E xa na ma mb ad tx ln (nI ((m_n nx + 5) % 6)) (nI (m_n ct - 1)) f0 f1 (v ((m_n nx + 5) % 6)) ga gb v).flatten, [(ou, .inl (E.2 3, 1, .inr (.inl (vp_updL f 0 (((nI (m_n ct - 1))).toInt64)))))]] : List va_W).flatten H := zf_sub hP [1, 0] rfl
  have hD : va_D A ([(z_W E xa na ma mb ad tx ln (nI ((m_n nx + 5) % 6)) (nI (m_n ct - 1)) f0 f1 (v ((m_n nx + 5) % 6)) ga gb v).flatten, [(ou, .inl (E.2 3, 1, .inr (.inl (vp_updL f 0 (((nI (m_n ct - 1))).toInt64)))))]] : List va_W).flatten := zf_subD hD [1, 0] (by decide) rfl
  exact W.iret (v := 0) hx hb hr (z_end hP hD hS rfl) hS.2.2 dL_undo_15 hlocks

set_option maxHeartbeats 4000000 in
set_option maxRecDepth 100000 in
theorem c_L_undo_n (l : Launch) (E : zE) (sa : Nat → Nat) (hl0 : l.stackTraces = false) (ou : Nat) (f : Nat → Int64) (xa na ma mb : Nat → Nat) (ad : Nat → Nat → Nat) (tx : Nat → Int32) (ln nx ct f0 f1 : Int32) (g ga gb : Nat → Int32) (v : Nat → Nat → Int32) (hw : z_wk ln nx ct f0 f1 g ga gb v) (hpq : ct = 0) : zMT l yL_undo wsL_undo ({ frames := 7, cells := 1, slots := 6, locals := 132 }) E sa [.ref (xa 0), .ref ou] ([(z_W E xa na ma mb ad tx ln nx ct f0 f1 g ga gb v).flatten, [(ou, .inl (E.2 3, 1, .inr (.inl f)))]] : List va_W).flatten (some (.int 1)) ([(z_W E xa na ma mb ad tx ln nx ct f0 f1 g ga gb v).flatten, [(ou, .inl (E.2 3, 1, .inr (.inl f)))]] : List va_W).flatten 1 6 := by
  refine z_startw (cc := cL_undo) (maxL := 3) (ret := (some .int)) (hh := [(0, 8, 11, 57)]) (by decide) rfl (Nat.le_of_ble_eq_true rfl) ?_
  intro Pg En s Mi below meth Cd A hx hb hr hts hown hlocks hml htab hA hT hZ hN H hH hP hK hD hS ls hl
  have hl : lv_has ls 3 [(0, .ref (xa 0)), (1, .ref ou)] := hl
  refine lv_aload_n hx hb dL_undo_0 rfl (lv_at hl 1 rfl) ?_
  refine lv_iconst (v := 0) hx hb dL_undo_1 (by decide) ?_
  refine lv_aload_n hx hb dL_undo_2 rfl (lv_at hl 0 rfl) ?_
  have hPc : va_P E.1 vwCl ([(z_W E xa na ma mb ad tx ln nx ct f0 f1 g ga gb v).flatten] : List va_W).flatten H := zf_sub hP [0] rfl
  have hDc : va_D A ([(z_W E xa na ma mb ad tx ln nx ct f0 f1 g ga gb v).flatten] : List va_W).flatten := zf_subD hD [0] (by decide) rfl
  refine z_xmut (Sc := [(z_W E xa na ma mb ad tx ln nx ct f0 f1 g ga gb v).flatten]) (Sr := [[(ou, .inl (E.2 3, 1, .inr (.inl f)))]]) (W1 := [(z_W E xa na ma mb ad tx ln (nI ((m_n nx + 5) % 6)) (nI (m_n ct - 1)) f0 f1 (v ((m_n nx + 5) % 6)) ga gb v).flatten]) (vx_runV (As := []) (rest := [.int 0, .ref ou]) ⟨hx, hb, hml, hown, hts⟩ (c_X9_undo l E sa hl0 xa na ma mb ad tx ln nx ct f0 f1 g ga gb v hw  H.size) (cwV 0 hts gL_undo_X9_undo rfl rfl rfl (by decide +kernel) ⟨Nat.le_of_ble_eq_true rfl, Nat.le_of_ble_eq_true rfl⟩) ⟨zPE.blind, va_recv hK.1 hPc (ci := 8) (q0 := 0) rfl rfl, z_preE hK hT hZ hS (zf_free hD hS hA [0] rfl) hPc hDc⟩ rfl rfl hl.1 rfl (lv_room (Nat.le_of_ble_eq_true rfl)) dL_undo_3 ⟨Nat.le_of_ble_eq_true rfl, Nat.le_of_ble_eq_true rfl⟩) hP hD hS hA [0] [1] rfl rfl (by decide) (by decide) (fun Ex ce q9 H locs hps hP hD hS hce hcv hcl => ?_) (fun H locs hph hP hD hS => ?_)
  · have hP : va_P E.1 vwCl ([[(ou, .inl (E.2 3, 1, .inr (.inl f)))], (z_W E xa na ma mb ad tx ln nx ct f0 f1 g ga gb v).flatten] : List va_W).flatten H := hP
    have hD : va_D A ([[(ou, .inl (E.2 3, 1, .inr (.inl f)))], (z_W E xa na ma mb ad tx ln nx ct f0 f1 g ga gb v).flatten] : List va_W).flatten := hD
    obtain ⟨eEx, hno⟩ := hps
    subst eEx
    refine vx_widen (k := 1) (n := 6) (by decide) (by decide) ?_
    refine vx_catch (own := RL) (name := zIS) hown [] ⟨0, 8, 11, 57⟩ [] (htab.trans rfl) (fun z hz => nomatch hz) (by decide) (by decide) (hts (.classLink RL 57 "java/lang/IllegalStateException") (by decide +kernel)) hT.cS hce hcv hcl ?_
    refine W.eq (g2 := F0 Mi 11 ls [.ref q9]) rfl ?_
    refine lv_astore_n (lv' := [(2, .ref q9), (0, .ref (xa 0)), (1, .ref ou)]) hx hb dL_undo_11 rfl hl (by decide) rfl (fun ls hl => ?_)
    refine lv_iconst (v := 1) hx hb dL_undo_12 (by decide) ?_
    have hP : va_P E.1 vwCl ([(z_W E xa na ma mb ad tx ln nx ct f0 f1 g ga gb v).flatten, [(ou, .inl (E.2 3, 1, .inr (.inl f)))]] : List va_W).flatten H := zf_sub hP [1, 0] rfl
    have hD : va_D A ([(z_W E xa na ma mb ad tx ln nx ct f0 f1 g ga gb v).flatten, [(ou, .inl (E.2 3, 1, .inr (.inl f)))]] : List va_W).flatten := zf_subD hD [1, 0] (by decide) rfl
    exact W.iret (v := 1) hx hb hr (z_end hP hD hS rfl) hS.2.2 dL_undo_13 hlocks
  have hP : va_P E.1 vwCl ([[(ou, .inl (E.2 3, 1, .inr (.inl f)))], (z_W E xa na ma mb ad tx ln (nI ((m_n nx + 5) % 6)) (nI (m_n ct - 1)) f0 f1 (v ((m_n nx + 5) % 6)) ga gb v).flatten] : List va_W).flatten H := hP
  have hD : va_D A ([[(ou, .inl (E.2 3, 1, .inr (.inl f)))], (z_W E xa na ma mb ad tx ln (nI ((m_n nx + 5) % 6)) (nI (m_n ct - 1)) f0 f1 (v ((m_n nx + 5) % 6)) ga gb v).flatten] : List va_W).flatten := hD
  refine W.widen (k := 1) (n := 6) (by decide) (by decide) ?_
  refine W.eq (g2 := F0 Mi 6 ls [.int (nI (m_n ct - 1)), .int 0, .ref ou]) rfl ?_
  exact absurd hpq hph

set_option maxHeartbeats 4000000 in
set_option maxRecDepth 100000 in
theorem c_L_store_y (l : Launch) (E : zE) (sa : Nat → Nat) (hl0 : l.stackTraces = false) (ou : Nat) (f : Nat → Int64) (xa na ma mb : Nat → Nat) (ad : Nat → Nat → Nat) (tx : Nat → Int32) (ln nx ct f0 f1 : Int32) (g ga gb : Nat → Int32) (v : Nat → Nat → Int32) (hw : z_wk ln nx ct f0 f1 g ga gb v) (x : Int32) (hpq : 0 ≤ x ∧ x ≤ 1) : zMT l yL_store wsL_store ({ frames := 8, cells := 1, slots := 6, locals := 134 }) E sa [.ref (xa 0), .int x, .ref ou] ([(z_W E xa na ma mb ad tx ln nx ct f0 f1 g ga gb v).flatten, [(ou, .inl (E.2 3, 1, .inr (.inl f)))]] : List va_W).flatten (some (.int 0)) ([(z_W E xa na ma mb ad tx ln nx ct (if x = 0 then 1 else f0) (if x = 0 then f1 else 1) g (if x = 0 then g else ga) (if x = 0 then gb else g) v).flatten, [(ou, .inl (E.2 3, 1, .inr (.inl (vp_updL f 0 ((m_std (g 0) - m_std (g 1))).toInt64))))]] : List va_W).flatten 1 6 := by
  refine z_startw (cc := cL_store) (maxL := 4) (ret := (some .int)) (hh := [(0, 9, 12, 13)]) (by decide) rfl (Nat.le_of_ble_eq_true rfl) ?_
  intro Pg En s Mi below meth Cd A hx hb hr hts hown hlocks hml htab hA hT hZ hN H hH hP hK hD hS ls hl
  have hl : lv_has ls 4 [(0, .ref (xa 0)), (1, .int x), (2, .ref ou)] := hl
  refine lv_aload_n hx hb dL_store_0 rfl (lv_at hl 2 rfl) ?_
  refine lv_iconst (v := 0) hx hb dL_store_1 (by decide) ?_
  refine lv_aload_n hx hb dL_store_2 rfl (lv_at hl 0 rfl) ?_
  refine lv_iload_n hx hb dL_store_3 rfl (lv_at hl 1 rfl) ?_
  have hPc : va_P E.1 vwCl ([(z_W E xa na ma mb ad tx ln nx ct f0 f1 g ga gb v).flatten] : List va_W).flatten H := zf_sub hP [0] rfl
  have hDc : va_D A ([(z_W E xa na ma mb ad tx ln nx ct f0 f1 g ga gb v).flatten] : List va_W).flatten := zf_subD hD [0] (by decide) rfl
  refine z_xmut (Sc := [(z_W E xa na ma mb ad tx ln nx ct f0 f1 g ga gb v).flatten]) (Sr := [[(ou, .inl (E.2 3, 1, .inr (.inl f)))]]) (W1 := [(z_W E xa na ma mb ad tx ln nx ct (if x = 0 then 1 else f0) (if x = 0 then f1 else 1) g (if x = 0 then g else ga) (if x = 0 then gb else g) v).flatten]) (vx_runV (As := [.int x]) (rest := [.int 0, .ref ou]) ⟨hx, hb, hml, hown, hts⟩ (c_X9_store l E sa hl0 xa na ma mb ad tx ln nx ct f0 f1 g ga gb v hw x H.size) (cwV 1 hts gL_store_X9_store rfl rfl rfl (by decide +kernel) ⟨Nat.le_of_ble_eq_true rfl, Nat.le_of_ble_eq_true rfl⟩) ⟨zPE.blind, va_recv hK.1 hPc (ci := 8) (q0 := 0) rfl rfl, z_preE hK hT hZ hS (zf_free hD hS hA [0] rfl) hPc hDc⟩ rfl rfl hl.1 rfl (lv_room (Nat.le_of_ble_eq_true rfl)) dL_store_4 ⟨Nat.le_of_ble_eq_true rfl, Nat.le_of_ble_eq_true rfl⟩) hP hD hS hA [0] [1] rfl rfl (by decide) (by decide) (fun Ex ce q9 H locs hps hP hD hS hce hcv hcl => ?_) (fun H locs hph hP hD hS => ?_)
  · have hP : va_P E.1 vwCl ([[(ou, .inl (E.2 3, 1, .inr (.inl f)))], (z_W E xa na ma mb ad tx ln nx ct f0 f1 g ga gb v).flatten] : List va_W).flatten H := hP
    have hD : va_D A ([[(ou, .inl (E.2 3, 1, .inr (.inl f)))], (z_W E xa na ma mb ad tx ln nx ct f0 f1 g ga gb v).flatten] : List va_W).flatten := hD
    exact absurd hpq hps.2
  have hP : va_P E.1 vwCl ([[(ou, .inl (E.2 3, 1, .inr (.inl f)))], (z_W E xa na ma mb ad tx ln nx ct (if x = 0 then 1 else f0) (if x = 0 then f1 else 1) g (if x = 0 then g else ga) (if x = 0 then gb else g) v).flatten] : List va_W).flatten H := hP
  have hD : va_D A ([[(ou, .inl (E.2 3, 1, .inr (.inl f)))], (z_W E xa na ma mb ad tx ln nx ct (if x = 0 then 1 else f0) (if x = 0 then f1 else 1) g (if x = 0 then g else ga) (if x = 0 then gb else g) v).flatten] : List va_W).flatten := hD
  refine W.widen (k := 1) (n := 6) (by decide) (by decide) ?_
  refine W.eq (g2 := F0 Mi 7 ls [.int (m_std (g 0) - m_std (g 1)), .int 0, .ref ou]) rfl ?_
  refine lv_i2l hx hb dL_store_7 rfl ?_
  refine z_last (k := 0) hx hb hK.1 hP hD hS 0 rfl rfl (by decide) (by decide) dL_store_8 (fun H locs hP hD hS => ?_)
  have hP : va_P E.1 vwCl ([[(ou, .inl (E.2 3, 1, .inr (.inl (vp_updL f 0 (((m_std (g 0) - m_std (g 1))).toInt64)))))], (z_W E xa na ma mb ad tx ln nx ct (if x = 0 then 1 else f0) (if x = 0 then f1 else 1) g (if x = 0 then g else ga) (if x = 0 then gb else g) v).flatten] : List va_W).flatten H := hP
  have hD : va_D A ([[(ou, .inl (E.2 3, 1, .inr (.inl (vp_updL f 0 (((m_std (g 0) - m_std (g 1))).toInt64)))))], (z_W E xa na ma mb ad tx ln nx ct (if x = 0 then 1 else f0) (if x = 0 then f1 else 1) g (if x = 0 then g else ga) (if x = 0 then gb else g) v).flatten] : List va_W).flatten := hD
  refine lv_goto (tgt := 15) hx hb dL_store_9 (by decide) ?_
  refine lv_iconst (v := 0) hx hb dL_store_15 (by decide) ?_
  have hP : va_P E.1 vwCl ([(z_W E xa na ma mb ad tx ln nx ct (if x = 0 then 1 else f0) (if x = 0 then f1 else 1) g (if x = 0 then g else ga) (if x = 0 then gb else g) v).flatten, [(ou, .inl (E.2 3, 1, .inr (.inl (vp_updL f 0 (((m_std (g 0) - m_std (g 1))).toInt64)))))]] : List va_W).flatten H := zf_sub hP [1, 0] rfl
  have hD : va_D A ([(z_W E xa na ma mb ad tx ln nx ct (if x = 0 then 1 else f0) (if x = 0 then f1 else 1) g (if x = 0 then g else ga) (if x = 0 then gb else g) v).flatten, [(ou, .inl (E.2 3, 1, .inr (.inl (vp_updL f 0 (((m_std (g 0) - m_std (g 1))).toInt64)))))]] : List va_W).flatten := zf_subD hD [1, 0] (by decide) rfl
  exact W.iret (v := 0) hx hb hr (z_end hP hD hS rfl) hS.2.2 dL_store_16 hlocks

set_option maxHeartbeats 4000000 in
set_option maxRecDepth 100000 in
theorem c_L_store_n (l : Launch) (E : zE) (sa : Nat → Nat) (hl0 : l.stackTraces = false) (ou : Nat) (f : Nat → Int64) (xa na ma mb : Nat → Nat) (ad : Nat → Nat → Nat) (tx : Nat → Int32) (ln nx ct f0 f1 : Int32) (g ga gb : Nat → Int32) (v : Nat → Nat → Int32) (hw : z_wk ln nx ct f0 f1 g ga gb v) (x : Int32) (hpq : ¬ (0 ≤ x ∧ x ≤ 1)) : zMT l yL_store wsL_store ({ frames := 8, cells := 1, slots := 6, locals := 134 }) E sa [.ref (xa 0), .int x, .ref ou] ([(z_W E xa na ma mb ad tx ln nx ct f0 f1 g ga gb v).flatten, [(ou, .inl (E.2 3, 1, .inr (.inl f)))]] : List va_W).flatten (some (.int 1)) ([(z_W E xa na ma mb ad tx ln nx ct f0 f1 g ga gb v).flatten, [(ou, .inl (E.2 3, 1, .inr (.inl f)))]] : List va_W).flatten 1 6 := by
  refine z_startw (cc := cL_store) (maxL := 4) (ret := (some .int)) (hh := [(0, 9, 12, 13)]) (by decide) rfl (Nat.le_of_ble_eq_true rfl) ?_
  intro Pg En s Mi below meth Cd A hx hb hr hts hown hlocks hml htab hA hT hZ hN H hH hP hK hD hS ls hl
  have hl : lv_has ls 4 [(0, .ref (xa 0)), (1, .int x), (2, .ref ou)] := hl
  refine lv_aload_n hx hb dL_store_0 rfl (lv_at hl 2 rfl) ?_
  refine lv_iconst (v := 0) hx hb dL_store_1 (by decide) ?_
  refine lv_aload_n hx hb dL_store_2 rfl (lv_at hl 0 rfl) ?_
  refine lv_iload_n hx hb dL_store_3 rfl (lv_at hl 1 rfl) ?_
  have hPc : va_P E.1 vwCl ([(z_W E xa na ma mb ad tx ln nx ct f0 f1 g ga gb v).flatten] : List va_W).flatten H := zf_sub hP [0] rfl
  have hDc : va_D A ([(z_W E xa na ma mb ad tx ln nx ct f0 f1 g ga gb v).flatten] : List va_W).flatten := zf_subD hD [0] (by decide) rfl
  refine z_xmut (Sc := [(z_W E xa na ma mb ad tx ln nx ct f0 f1 g ga gb v).flatten]) (Sr := [[(ou, .inl (E.2 3, 1, .inr (.inl f)))]]) (W1 := [(z_W E xa na ma mb ad tx ln nx ct (if x = 0 then 1 else f0) (if x = 0 then f1 else 1) g (if x = 0 then g else ga) (if x = 0 then gb else g) v).flatten]) (vx_runV (As := [.int x]) (rest := [.int 0, .ref ou]) ⟨hx, hb, hml, hown, hts⟩ (c_X9_store l E sa hl0 xa na ma mb ad tx ln nx ct f0 f1 g ga gb v hw x H.size) (cwV 1 hts gL_store_X9_store rfl rfl rfl (by decide +kernel) ⟨Nat.le_of_ble_eq_true rfl, Nat.le_of_ble_eq_true rfl⟩) ⟨zPE.blind, va_recv hK.1 hPc (ci := 8) (q0 := 0) rfl rfl, z_preE hK hT hZ hS (zf_free hD hS hA [0] rfl) hPc hDc⟩ rfl rfl hl.1 rfl (lv_room (Nat.le_of_ble_eq_true rfl)) dL_store_4 ⟨Nat.le_of_ble_eq_true rfl, Nat.le_of_ble_eq_true rfl⟩) hP hD hS hA [0] [1] rfl rfl (by decide) (by decide) (fun Ex ce q9 H locs hps hP hD hS hce hcv hcl => ?_) (fun H locs hph hP hD hS => ?_)
  · have hP : va_P E.1 vwCl ([[(ou, .inl (E.2 3, 1, .inr (.inl f)))], (z_W E xa na ma mb ad tx ln nx ct f0 f1 g ga gb v).flatten] : List va_W).flatten H := hP
    have hD : va_D A ([[(ou, .inl (E.2 3, 1, .inr (.inl f)))], (z_W E xa na ma mb ad tx ln nx ct f0 f1 g ga gb v).flatten] : List va_W).flatten := hD
    obtain ⟨eEx, hno⟩ := hps
    subst eEx
    refine vx_widen (k := 1) (n := 6) (by decide) (by decide) ?_
    refine vx_catch (own := RL) (name := zIA) hown [] ⟨0, 9, 12, 13⟩ [] (htab.trans rfl) (fun z hz => nomatch hz) (by decide) (by decide) (hts (.classLink RL 13 "java/lang/IllegalArgumentException") (by decide +kernel)) hT.cA hce hcv hcl ?_
    refine W.eq (g2 := F0 Mi 12 ls [.ref q9]) rfl ?_
    refine lv_astore_n (lv' := [(3, .ref q9), (0, .ref (xa 0)), (1, .int x), (2, .ref ou)]) hx hb dL_store_12 rfl hl (by decide) rfl (fun ls hl => ?_)
    refine lv_iconst (v := 1) hx hb dL_store_13 (by decide) ?_
    have hP : va_P E.1 vwCl ([(z_W E xa na ma mb ad tx ln nx ct f0 f1 g ga gb v).flatten, [(ou, .inl (E.2 3, 1, .inr (.inl f)))]] : List va_W).flatten H := zf_sub hP [1, 0] rfl
    have hD : va_D A ([(z_W E xa na ma mb ad tx ln nx ct f0 f1 g ga gb v).flatten, [(ou, .inl (E.2 3, 1, .inr (.inl f)))]] : List va_W).flatten := zf_subD hD [1, 0] (by decide) rfl
    exact W.iret (v := 1) hx hb hr (z_end hP hD hS rfl) hS.2.2 dL_store_14 hlocks
  have hP : va_P E.1 vwCl ([[(ou, .inl (E.2 3, 1, .inr (.inl f)))], (z_W E xa na ma mb ad tx ln nx ct (if x = 0 then 1 else f0) (if x = 0 then f1 else 1) g (if x = 0 then g else ga) (if x = 0 then gb else g) v).flatten] : List va_W).flatten H := hP
  have hD : va_D A ([[(ou, .inl (E.2 3, 1, .inr (.inl f)))], (z_W E xa na ma mb ad tx ln nx ct (if x = 0 then 1 else f0) (if x = 0 then f1 else 1) g (if x = 0 then g else ga) (if x = 0 then gb else g) v).flatten] : List va_W).flatten := hD
  refine W.widen (k := 1) (n := 6) (by decide) (by decide) ?_
  refine W.eq (g2 := F0 Mi 7 ls [.int (m_std (g 0) - m_std (g 1)), .int 0, .ref ou]) rfl ?_
  exact absurd hph hpq

set_option maxHeartbeats 4000000 in
set_option maxRecDepth 100000 in
theorem c_L_recall_y (l : Launch) (E : zE) (sa : Nat → Nat) (hl0 : l.stackTraces = false) (ou : Nat) (f : Nat → Int64) (xa na ma mb : Nat → Nat) (ad : Nat → Nat → Nat) (tx : Nat → Int32) (ln nx ct f0 f1 : Int32) (g ga gb : Nat → Int32) (v : Nat → Nat → Int32) (hw : z_wk ln nx ct f0 f1 g ga gb v) (x : Int32) (hpq : (0 ≤ x ∧ x ≤ 1) ∧ ¬ (if x = 0 then f0 else f1) = 0) : zMT l yL_recall wsL_recall ({ frames := 8, cells := 2, slots := 12, locals := 134 }) E sa [.ref (xa 0), .int x, .ref ou] ([(z_W E xa na ma mb ad tx ln nx ct f0 f1 g ga gb v).flatten, [(ou, .inl (E.2 3, 1, .inr (.inl f)))]] : List va_W).flatten (some (.int 0)) ([(z_W E xa na ma mb ad tx ln (nI ((m_n nx + 1) % 6)) (nI (if m_n ct < 6 then m_n ct + 1 else 6)) f0 f1 (if x = 0 then ga else gb) ga gb (va_up v (m_n nx) g)).flatten, [(ou, .inl (E.2 3, 1, .inr (.inl (vp_updL f 0 ((m_std ((if x = 0 then ga else gb) 0) - m_std ((if x = 0 then ga else gb) 1))).toInt64))))]] : List va_W).flatten 2 12 := by
  refine z_startw (cc := cL_recall) (maxL := 4) (ret := (some .int)) (hh := [(0, 9, 12, 13), (0, 9, 15, 57)]) (by decide) rfl (Nat.le_of_ble_eq_true rfl) ?_
  intro Pg En s Mi below meth Cd A hx hb hr hts hown hlocks hml htab hA hT hZ hN H hH hP hK hD hS ls hl
  have hl : lv_has ls 4 [(0, .ref (xa 0)), (1, .int x), (2, .ref ou)] := hl
  refine lv_aload_n hx hb dL_recall_0 rfl (lv_at hl 2 rfl) ?_
  refine lv_iconst (v := 0) hx hb dL_recall_1 (by decide) ?_
  refine lv_aload_n hx hb dL_recall_2 rfl (lv_at hl 0 rfl) ?_
  refine lv_iload_n hx hb dL_recall_3 rfl (lv_at hl 1 rfl) ?_
  have hPc : va_P E.1 vwCl ([(z_W E xa na ma mb ad tx ln nx ct f0 f1 g ga gb v).flatten] : List va_W).flatten H := zf_sub hP [0] rfl
  have hDc : va_D A ([(z_W E xa na ma mb ad tx ln nx ct f0 f1 g ga gb v).flatten] : List va_W).flatten := zf_subD hD [0] (by decide) rfl
  refine z_xmut (Sc := [(z_W E xa na ma mb ad tx ln nx ct f0 f1 g ga gb v).flatten]) (Sr := [[(ou, .inl (E.2 3, 1, .inr (.inl f)))]]) (W1 := [(z_W E xa na ma mb ad tx ln (nI ((m_n nx + 1) % 6)) (nI (if m_n ct < 6 then m_n ct + 1 else 6)) f0 f1 (if x = 0 then ga else gb) ga gb (va_up v (m_n nx) g)).flatten]) (vx_runV (As := [.int x]) (rest := [.int 0, .ref ou]) ⟨hx, hb, hml, hown, hts⟩ (c_X9_recall l E sa hl0 xa na ma mb ad tx ln nx ct f0 f1 g ga gb v hw x H.size) (cwV 1 hts gL_recall_X9_recall rfl rfl rfl (by decide +kernel) ⟨Nat.le_of_ble_eq_true rfl, Nat.le_of_ble_eq_true rfl⟩) ⟨zPE.blind, va_recv hK.1 hPc (ci := 8) (q0 := 0) rfl rfl, z_preE hK hT hZ hS (zf_free hD hS hA [0] rfl) hPc hDc⟩ rfl rfl hl.1 rfl (lv_room (Nat.le_of_ble_eq_true rfl)) dL_recall_4 ⟨Nat.le_of_ble_eq_true rfl, Nat.le_of_ble_eq_true rfl⟩) hP hD hS hA [0] [1] rfl rfl (by decide) (by decide) (fun Ex ce q9 H locs hps hP hD hS hce hcv hcl => ?_) (fun H locs hph hP hD hS => ?_)
  · have hP : va_P E.1 vwCl ([[(ou, .inl (E.2 3, 1, .inr (.inl f)))], (z_W E xa na ma mb ad tx ln nx ct f0 f1 g ga gb v).flatten] : List va_W).flatten H := hP
    have hD : va_D A ([[(ou, .inl (E.2 3, 1, .inr (.inl f)))], (z_W E xa na ma mb ad tx ln nx ct f0 f1 g ga gb v).flatten] : List va_W).flatten := hD
    exact (hps.elim (fun z => z.2 hpq.1) (fun z => hpq.2 z.2.2)).elim
  have hP : va_P E.1 vwCl ([[(ou, .inl (E.2 3, 1, .inr (.inl f)))], (z_W E xa na ma mb ad tx ln (nI ((m_n nx + 1) % 6)) (nI (if m_n ct < 6 then m_n ct + 1 else 6)) f0 f1 (if x = 0 then ga else gb) ga gb (va_up v (m_n nx) g)).flatten] : List va_W).flatten H := hP
  have hD : va_D A ([[(ou, .inl (E.2 3, 1, .inr (.inl f)))], (z_W E xa na ma mb ad tx ln (nI ((m_n nx + 1) % 6)) (nI (if m_n ct < 6 then m_n ct + 1 else 6)) f0 f1 (if x = 0 then ga else gb) ga gb (va_up v (m_n nx) g)).flatten] : List va_W).flatten := hD
  refine W.widen (k := 2) (n := 12) (by decide) (by decide) ?_
  refine W.eq (g2 := F0 Mi 7 ls [.int (m_std ((if x = 0 then ga else gb) 0) - m_std ((if x = 0 then ga else gb) 1)), .int 0, .ref ou]) rfl ?_
  refine lv_i2l hx hb dL_recall_7 rfl ?_
  refine z_last (k := 0) hx hb hK.1 hP hD hS 0 rfl rfl (by decide) (by decide) dL_recall_8 (fun H locs hP hD hS => ?_)
  have hP : va_P E.1 vwCl ([[(ou, .inl (E.2 3, 1, .inr (.inl (vp_updL f 0 (((m_std ((if x = 0 then ga else gb) 0) - m_std ((if x = 0 then ga else gb) 1))).toInt64)))))], (z_W E xa na ma mb ad tx ln (nI ((m_n nx + 1) % 6)) (nI (if m_n ct < 6 then m_n ct + 1 else 6)) f0 f1 (if x = 0 then ga else gb) ga gb (va_up v (m_n nx) g)).flatten] : List va_W).flatten H := hP
  have hD : va_D A ([[(ou, .inl (E.2 3, 1, .inr (.inl (vp_updL f 0 (((m_std ((if x = 0 then ga else gb) 0) - m_std ((if x = 0 then ga else gb) 1))).toInt64)))))], (z_W E xa na ma mb ad tx ln (nI ((m_n nx + 1) % 6)) (nI (if m_n ct < 6 then m_n ct + 1 else 6)) f0 f1 (if x = 0 then ga else gb) ga gb (va_up v (m_n nx) g)).flatten] : List va_W).flatten := hD
  refine lv_goto (tgt := 18) hx hb dL_recall_9 (by decide) ?_
  refine lv_iconst (v := 0) hx hb dL_recall_18 (by decide) ?_
  have hP : va_P E.1 vwCl ([(z_W E xa na ma mb ad tx ln (nI ((m_n nx + 1) % 6)) (nI (if m_n ct < 6 then m_n ct + 1 else 6)) f0 f1 (if x = 0 then ga else gb) ga gb (va_up v (m_n nx) g)).flatten, [(ou, .inl (E.2 3, 1, .inr (.inl (vp_updL f 0 (((m_std ((if x = 0 then ga else gb) 0) - m_std ((if x = 0 then ga else gb) 1))).toInt64)))))]] : List va_W).flatten H := zf_sub hP [1, 0] rfl
  have hD : va_D A ([(z_W E xa na ma mb ad tx ln (nI ((m_n nx + 1) % 6)) (nI (if m_n ct < 6 then m_n ct + 1 else 6)) f0 f1 (if x = 0 then ga else gb) ga gb (va_up v (m_n nx) g)).flatten, [(ou, .inl (E.2 3, 1, .inr (.inl (vp_updL f 0 (((m_std ((if x = 0 then ga else gb) 0) - m_std ((if x = 0 then ga else gb) 1))).toInt64)))))]] : List va_W).flatten := zf_subD hD [1, 0] (by decide) rfl
  exact W.iret (v := 0) hx hb hr (z_end hP hD hS rfl) hS.2.2 dL_recall_19 hlocks

set_option maxHeartbeats 4000000 in
set_option maxRecDepth 100000 in
theorem c_L_recall_n1 (l : Launch) (E : zE) (sa : Nat → Nat) (hl0 : l.stackTraces = false) (ou : Nat) (f : Nat → Int64) (xa na ma mb : Nat → Nat) (ad : Nat → Nat → Nat) (tx : Nat → Int32) (ln nx ct f0 f1 : Int32) (g ga gb : Nat → Int32) (v : Nat → Nat → Int32) (hw : z_wk ln nx ct f0 f1 g ga gb v) (x : Int32) (hpq : ¬ (0 ≤ x ∧ x ≤ 1)) : zMT l yL_recall wsL_recall ({ frames := 8, cells := 2, slots := 12, locals := 134 }) E sa [.ref (xa 0), .int x, .ref ou] ([(z_W E xa na ma mb ad tx ln nx ct f0 f1 g ga gb v).flatten, [(ou, .inl (E.2 3, 1, .inr (.inl f)))]] : List va_W).flatten (some (.int 1)) ([(z_W E xa na ma mb ad tx ln nx ct f0 f1 g ga gb v).flatten, [(ou, .inl (E.2 3, 1, .inr (.inl f)))]] : List va_W).flatten 2 12 := by
  refine z_startw (cc := cL_recall) (maxL := 4) (ret := (some .int)) (hh := [(0, 9, 12, 13), (0, 9, 15, 57)]) (by decide) rfl (Nat.le_of_ble_eq_true rfl) ?_
  intro Pg En s Mi below meth Cd A hx hb hr hts hown hlocks hml htab hA hT hZ hN H hH hP hK hD hS ls hl
  have hl : lv_has ls 4 [(0, .ref (xa 0)), (1, .int x), (2, .ref ou)] := hl
  refine lv_aload_n hx hb dL_recall_0 rfl (lv_at hl 2 rfl) ?_
  refine lv_iconst (v := 0) hx hb dL_recall_1 (by decide) ?_
  refine lv_aload_n hx hb dL_recall_2 rfl (lv_at hl 0 rfl) ?_
  refine lv_iload_n hx hb dL_recall_3 rfl (lv_at hl 1 rfl) ?_
  have hPc : va_P E.1 vwCl ([(z_W E xa na ma mb ad tx ln nx ct f0 f1 g ga gb v).flatten] : List va_W).flatten H := zf_sub hP [0] rfl
  have hDc : va_D A ([(z_W E xa na ma mb ad tx ln nx ct f0 f1 g ga gb v).flatten] : List va_W).flatten := zf_subD hD [0] (by decide) rfl
  refine z_xmut (Sc := [(z_W E xa na ma mb ad tx ln nx ct f0 f1 g ga gb v).flatten]) (Sr := [[(ou, .inl (E.2 3, 1, .inr (.inl f)))]]) (W1 := [(z_W E xa na ma mb ad tx ln (nI ((m_n nx + 1) % 6)) (nI (if m_n ct < 6 then m_n ct + 1 else 6)) f0 f1 (if x = 0 then ga else gb) ga gb (va_up v (m_n nx) g)).flatten]) (vx_runV (As := [.int x]) (rest := [.int 0, .ref ou]) ⟨hx, hb, hml, hown, hts⟩ (c_X9_recall l E sa hl0 xa na ma mb ad tx ln nx ct f0 f1 g ga gb v hw x H.size) (cwV 1 hts gL_recall_X9_recall rfl rfl rfl (by decide +kernel) ⟨Nat.le_of_ble_eq_true rfl, Nat.le_of_ble_eq_true rfl⟩) ⟨zPE.blind, va_recv hK.1 hPc (ci := 8) (q0 := 0) rfl rfl, z_preE hK hT hZ hS (zf_free hD hS hA [0] rfl) hPc hDc⟩ rfl rfl hl.1 rfl (lv_room (Nat.le_of_ble_eq_true rfl)) dL_recall_4 ⟨Nat.le_of_ble_eq_true rfl, Nat.le_of_ble_eq_true rfl⟩) hP hD hS hA [0] [1] rfl rfl (by decide) (by decide) (fun Ex ce q9 H locs hps hP hD hS hce hcv hcl => ?_) (fun H locs hph hP hD hS => ?_)
  · have hP : va_P E.1 vwCl ([[(ou, .inl (E.2 3, 1, .inr (.inl f)))], (z_W E xa na ma mb ad tx ln nx ct f0 f1 g ga gb v).flatten] : List va_W).flatten H := hP
    have hD : va_D A ([[(ou, .inl (E.2 3, 1, .inr (.inl f)))], (z_W E xa na ma mb ad tx ln nx ct f0 f1 g ga gb v).flatten] : List va_W).flatten := hD
    rcases hps with ⟨eEx, hno⟩ | ⟨eEx, hyes, -⟩
    · subst eEx
      refine vx_widen (k := 2) (n := 12) (by decide) (by decide) ?_
      refine vx_catch (own := RL) (name := zIA) hown [] ⟨0, 9, 12, 13⟩ [⟨0, 9, 15, 57⟩] (htab.trans rfl) (fun z hz => nomatch hz) (by decide) (by decide) (hts (.classLink RL 13 "java/lang/IllegalArgumentException") (by decide +kernel)) hT.cA hce hcv hcl ?_
      refine W.eq (g2 := F0 Mi 12 ls [.ref q9]) rfl ?_
      refine lv_astore_n (lv' := [(3, .ref q9), (0, .ref (xa 0)), (1, .int x), (2, .ref ou)]) hx hb dL_recall_12 rfl hl (by decide) rfl (fun ls hl => ?_)
      refine lv_iconst (v := 1) hx hb dL_recall_13 (by decide) ?_
      have hP : va_P E.1 vwCl ([(z_W E xa na ma mb ad tx ln nx ct f0 f1 g ga gb v).flatten, [(ou, .inl (E.2 3, 1, .inr (.inl f)))]] : List va_W).flatten H := zf_sub hP [1, 0] rfl
      have hD : va_D A ([(z_W E xa na ma mb ad tx ln nx ct f0 f1 g ga gb v).flatten, [(ou, .inl (E.2 3, 1, .inr (.inl f)))]] : List va_W).flatten := zf_subD hD [1, 0] (by decide) rfl
      exact W.iret (v := 1) hx hb hr (z_end hP hD hS rfl) hS.2.2 dL_recall_14 hlocks
    · exact absurd hyes hpq
  have hP : va_P E.1 vwCl ([[(ou, .inl (E.2 3, 1, .inr (.inl f)))], (z_W E xa na ma mb ad tx ln (nI ((m_n nx + 1) % 6)) (nI (if m_n ct < 6 then m_n ct + 1 else 6)) f0 f1 (if x = 0 then ga else gb) ga gb (va_up v (m_n nx) g)).flatten] : List va_W).flatten H := hP
  have hD : va_D A ([[(ou, .inl (E.2 3, 1, .inr (.inl f)))], (z_W E xa na ma mb ad tx ln (nI ((m_n nx + 1) % 6)) (nI (if m_n ct < 6 then m_n ct + 1 else 6)) f0 f1 (if x = 0 then ga else gb) ga gb (va_up v (m_n nx) g)).flatten] : List va_W).flatten := hD
  refine W.widen (k := 2) (n := 12) (by decide) (by decide) ?_
  refine W.eq (g2 := F0 Mi 7 ls [.int (m_std ((if x = 0 then ga else gb) 0) - m_std ((if x = 0 then ga else gb) 1)), .int 0, .ref ou]) rfl ?_
  exact absurd hph.1 hpq

set_option maxHeartbeats 4000000 in
set_option maxRecDepth 100000 in
theorem c_L_recall_n2 (l : Launch) (E : zE) (sa : Nat → Nat) (hl0 : l.stackTraces = false) (ou : Nat) (f : Nat → Int64) (xa na ma mb : Nat → Nat) (ad : Nat → Nat → Nat) (tx : Nat → Int32) (ln nx ct f0 f1 : Int32) (g ga gb : Nat → Int32) (v : Nat → Nat → Int32) (hw : z_wk ln nx ct f0 f1 g ga gb v) (x : Int32) (hpq : (0 ≤ x ∧ x ≤ 1) ∧ (if x = 0 then f0 else f1) = 0) : zMT l yL_recall wsL_recall ({ frames := 8, cells := 2, slots := 12, locals := 134 }) E sa [.ref (xa 0), .int x, .ref ou] ([(z_W E xa na ma mb ad tx ln nx ct f0 f1 g ga gb v).flatten, [(ou, .inl (E.2 3, 1, .inr (.inl f)))]] : List va_W).flatten (some (.int 2)) ([(z_W E xa na ma mb ad tx ln nx ct f0 f1 g ga gb v).flatten, [(ou, .inl (E.2 3, 1, .inr (.inl f)))]] : List va_W).flatten 2 12 := by
  refine z_startw (cc := cL_recall) (maxL := 4) (ret := (some .int)) (hh := [(0, 9, 12, 13), (0, 9, 15, 57)]) (by decide) rfl (Nat.le_of_ble_eq_true rfl) ?_
  intro Pg En s Mi below meth Cd A hx hb hr hts hown hlocks hml htab hA hT hZ hN H hH hP hK hD hS ls hl
  have hl : lv_has ls 4 [(0, .ref (xa 0)), (1, .int x), (2, .ref ou)] := hl
  refine lv_aload_n hx hb dL_recall_0 rfl (lv_at hl 2 rfl) ?_
  refine lv_iconst (v := 0) hx hb dL_recall_1 (by decide) ?_
  refine lv_aload_n hx hb dL_recall_2 rfl (lv_at hl 0 rfl) ?_
  refine lv_iload_n hx hb dL_recall_3 rfl (lv_at hl 1 rfl) ?_
  have hPc : va_P E.1 vwCl ([(z_W E xa na ma mb ad tx ln nx ct f0 f1 g ga gb v).flatten] : List va_W).flatten H := zf_sub hP [0] rfl
  have hDc : va_D A ([(z_W E xa na ma mb ad tx ln nx ct f0 f1 g ga gb v).flatten] : List va_W).flatten := zf_subD hD [0] (by decide) rfl
  refine z_xmut (Sc := [(z_W E xa na ma mb ad tx ln nx ct f0 f1 g ga gb v).flatten]) (Sr := [[(ou, .inl (E.2 3, 1, .inr (.inl f)))]]) (W1 := [(z_W E xa na ma mb ad tx ln (nI ((m_n nx + 1) % 6)) (nI (if m_n ct < 6 then m_n ct + 1 else 6)) f0 f1 (if x = 0 then ga else gb) ga gb (va_up v (m_n nx) g)).flatten]) (vx_runV (As := [.int x]) (rest := [.int 0, .ref ou]) ⟨hx, hb, hml, hown, hts⟩ (c_X9_recall l E sa hl0 xa na ma mb ad tx ln nx ct f0 f1 g ga gb v hw x H.size) (cwV 1 hts gL_recall_X9_recall rfl rfl rfl (by decide +kernel) ⟨Nat.le_of_ble_eq_true rfl, Nat.le_of_ble_eq_true rfl⟩) ⟨zPE.blind, va_recv hK.1 hPc (ci := 8) (q0 := 0) rfl rfl, z_preE hK hT hZ hS (zf_free hD hS hA [0] rfl) hPc hDc⟩ rfl rfl hl.1 rfl (lv_room (Nat.le_of_ble_eq_true rfl)) dL_recall_4 ⟨Nat.le_of_ble_eq_true rfl, Nat.le_of_ble_eq_true rfl⟩) hP hD hS hA [0] [1] rfl rfl (by decide) (by decide) (fun Ex ce q9 H locs hps hP hD hS hce hcv hcl => ?_) (fun H locs hph hP hD hS => ?_)
  · have hP : va_P E.1 vwCl ([[(ou, .inl (E.2 3, 1, .inr (.inl f)))], (z_W E xa na ma mb ad tx ln nx ct f0 f1 g ga gb v).flatten] : List va_W).flatten H := hP
    have hD : va_D A ([[(ou, .inl (E.2 3, 1, .inr (.inl f)))], (z_W E xa na ma mb ad tx ln nx ct f0 f1 g ga gb v).flatten] : List va_W).flatten := hD
    rcases hps with ⟨eEx, hno⟩ | ⟨eEx, hyes, -⟩
    · exact absurd hpq.1 hno
    · subst eEx
      refine vx_widen (k := 2) (n := 12) (by decide) (by decide) ?_
      refine vx_catch (own := RL) (name := zIS) hown [⟨0, 9, 12, 13⟩] ⟨0, 9, 15, 57⟩ [] (htab.trans rfl) (fun z hz => by rcases List.mem_singleton.mp hz with rfl; exact Or.inr ⟨by decide, zIA, (hts (.classLink RL 13 "java/lang/IllegalArgumentException") (by decide +kernel)), hN⟩) (by decide) (by decide) (hts (.classLink RL 57 "java/lang/IllegalStateException") (by decide +kernel)) hT.cS hce hcv hcl ?_
      refine W.eq (g2 := F0 Mi 15 ls [.ref q9]) rfl ?_
      refine lv_astore_n (lv' := [(3, .ref q9), (0, .ref (xa 0)), (1, .int x), (2, .ref ou)]) hx hb dL_recall_15 rfl hl (by decide) rfl (fun ls hl => ?_)
      refine lv_iconst (v := 2) hx hb dL_recall_16 (by decide) ?_
      have hP : va_P E.1 vwCl ([(z_W E xa na ma mb ad tx ln nx ct f0 f1 g ga gb v).flatten, [(ou, .inl (E.2 3, 1, .inr (.inl f)))]] : List va_W).flatten H := zf_sub hP [1, 0] rfl
      have hD : va_D A ([(z_W E xa na ma mb ad tx ln nx ct f0 f1 g ga gb v).flatten, [(ou, .inl (E.2 3, 1, .inr (.inl f)))]] : List va_W).flatten := zf_subD hD [1, 0] (by decide) rfl
      exact W.iret (v := 2) hx hb hr (z_end hP hD hS rfl) hS.2.2 dL_recall_17 hlocks
  have hP : va_P E.1 vwCl ([[(ou, .inl (E.2 3, 1, .inr (.inl f)))], (z_W E xa na ma mb ad tx ln (nI ((m_n nx + 1) % 6)) (nI (if m_n ct < 6 then m_n ct + 1 else 6)) f0 f1 (if x = 0 then ga else gb) ga gb (va_up v (m_n nx) g)).flatten] : List va_W).flatten H := hP
  have hD : va_D A ([[(ou, .inl (E.2 3, 1, .inr (.inl f)))], (z_W E xa na ma mb ad tx ln (nI ((m_n nx + 1) % 6)) (nI (if m_n ct < 6 then m_n ct + 1 else 6)) f0 f1 (if x = 0 then ga else gb) ga gb (va_up v (m_n nx) g)).flatten] : List va_W).flatten := hD
  refine W.widen (k := 2) (n := 12) (by decide) (by decide) ?_
  refine W.eq (g2 := F0 Mi 7 ls [.int (m_std ((if x = 0 then ga else gb) 0) - m_std ((if x = 0 then ga else gb) 1)), .int 0, .ref ou]) rfl ?_
  exact absurd hpq.2 hph.2
