set_option maxHeartbeats 4000000 in
set_option maxRecDepth 100000 in
theorem c_L_holds (l : Launch) (E : zE) (sa : Nat → Nat) (hl0 : l.stackTraces = false) (xa na ma mb : Nat → Nat) (ad : Nat → Nat → Nat) (tx : Nat → Int32) (ln nx ct f0 f1 : Int32) (g ga gb : Nat → Int32) (v : Nat → Nat → Int32) (hw : z_wk ln nx ct f0 f1 g ga gb v) {T : Nat} (hg : z_g T g) (hT5 : T ≤ 5000) (x : Int32) : zME l yL_holds wsL_holds ({ frames := 8, cells := 107, slots := 642, locals := 133 }) E sa [.ref (xa 0), .int x] ([(z_W E xa na ma mb ad tx ln nx ct f0 f1 g ga gb v).flatten] : List va_W).flatten True (some (.int 1)) ([(z_W E xa na ma mb ad tx ln nx ct f0 f1 g ga gb v).flatten] : List va_W).flatten (fun _ => False) 107 642 := by
  refine z_starte (cc := cL_holds) (maxL := 8) (ret := (some .boolean)) (by decide) rfl (Nat.le_of_ble_eq_true rfl) ?_
  intro Pg En s Mi below meth Cd A hx hb hr hts hown hlocks hml hnt hA hT hZ H hH hP hK hD hS ls hl
  have hl : lv_has ls 8 [(0, .ref (xa 0)), (1, .int x)] := hl
  obtain ⟨jp, hjp, ejp⟩ := a_up_n x (k := 6000) (by decide) (by decide)
  obtain ⟨jh, hjh, ejh⟩ := a_up_n (x >>> (3 &&& 31)) (k := 40001) (by decide) (by decide)
  have LOOP_293 : ∀ (kz : Nat) (k : Nat), 10 < k + kz → 1 ≤ k → k ≤ 10 →  ∀ (H : Heap) (locs : List Loc), va_P E.1 vwCl ([(z_W E xa na ma mb ad tx ln nx ct f0 f1 g ga gb v).flatten] : List va_W).flatten H → va_D A ([(z_W E xa na ma mb ad tx ln nx ct f0 f1 g ga gb v).flatten] : List va_W).flatten → va_S A s.heap H locs → ∀ (ls : Array Slot), lv_has ls 8 [(0, .ref (xa 0)), (6, .int 1), (7, .int (nI k))] → W Pg l En ({ frames := 8, cells := 107, slots := 642, locals := 133 } : Room) s Mi ([.ref (xa 0), .int x] : List Value).toArray below meth Cd H locs (10 * k + 7) (60 * k + 42) (vx_MQ below (zQ (some (.int 1)) (fun H => (True) ∧ zB E ([(z_W E xa na ma mb ad tx ln nx ct f0 f1 g ga gb v).flatten] : List va_W).flatten A H) A) (zXC E ([(z_W E xa na ma mb ad tx ln nx ct f0 f1 g ga gb v).flatten] : List va_W).flatten (fun _ => False) A) ([.ref (xa 0), .int x] : List Value).toArray s 107 642 A) (F0 Mi 293 ls []) := by
    intro kz
    induction kz with
    | zero => intro k h1 h2 h4; exact absurd h1 (by omega)
    | succ kz ih =>
      intro k h1 h2 h4 H locs hP hD hS ls hl
      refine lv_iload hx hb dL_holds_293 (lv_at hl 2 rfl) ?_
      refine lv_aload_n hx hb dL_holds_295 rfl (lv_at hl 0 rfl) ?_
      have hPc : va_P E.1 vwCl ([(z_W E xa na ma mb ad tx ln nx ct f0 f1 g ga gb v).flatten] : List va_W).flatten H := zf_sub hP [0] rfl
      refine z_rdv (va_runV (As := []) (rest := [.int (nI k)]) ⟨hx, hb, hml, hown, hts⟩ (c_X9_marks l E xa na ma mb ad tx ln nx ct f0 f1 g ga gb v hw) (cwV 0 hts gL_holds_X9_marks rfl rfl rfl (by decide +kernel) ⟨Nat.le_of_ble_eq_true rfl, Nat.le_of_ble_eq_true rfl⟩) ⟨zPr.blind, va_recv hK.1 hPc (ci := 8) (q0 := 0) rfl rfl, z_prer hK hPc⟩ rfl rfl hl.1 rfl (lv_room (Nat.le_of_ble_eq_true rfl)) dL_holds_296 ⟨(by show _ ≤ 107; omega), (by show _ ≤ 642; omega)⟩) ?_
      refine W.eq (g2 := F0 Mi 299 ls [.int (g 75), .int (nI k)]) rfl ?_
      refine lv_icmp_ge (tgt := 368) hx hb dL_holds_299 (by decide) (fun c_299 => ?_) (fun c_299 => ?_)
      · refine lv_iload hx hb dL_holds_368 (lv_at hl 1 rfl) ?_
        refine lv_if_eq (tgt := 403) hx hb dL_holds_370 (by decide) (fun h9 => absurd h9 ((by decide))) (fun _ => ?_)
        refine lv_aload_n hx hb dL_holds_373 rfl (lv_at hl 0 rfl) ?_
        have hPc : va_P E.1 vwCl ([(z_W E xa na ma mb ad tx ln nx ct f0 f1 g ga gb v).flatten] : List va_W).flatten H := zf_sub hP [0] rfl
        refine z_rdv (va_runV (As := []) (rest := []) ⟨hx, hb, hml, hown, hts⟩ (c_X9_isAlarm l E xa na ma mb ad tx ln nx ct f0 f1 g ga gb v hw) (cwV 0 hts gL_holds_X9_isAlarm rfl rfl rfl (by decide +kernel) ⟨Nat.le_of_ble_eq_true rfl, Nat.le_of_ble_eq_true rfl⟩) ⟨zPr.blind, va_recv hK.1 hPc (ci := 8) (q0 := 0) rfl rfl, z_prer hK hPc⟩ rfl rfl hl.1 rfl (lv_room (Nat.le_of_ble_eq_true rfl)) dL_holds_374 ⟨(by show _ ≤ 107; omega), (by show _ ≤ 642; omega)⟩) ?_
        refine W.eq (g2 := F0 Mi 377 ls [.int (m_al (m_n (g 14)) (m_log g) (g 11))]) rfl ?_
        refine lv_if_eq (tgt := 387) hx hb dL_holds_377 (by decide) (fun c_377 => ?_) (fun c_377 => ?_)
        · refine lv_aload_n hx hb dL_holds_387 rfl (lv_at hl 0 rfl) ?_
          have hPc : va_P E.1 vwCl ([(z_W E xa na ma mb ad tx ln nx ct f0 f1 g ga gb v).flatten] : List va_W).flatten H := zf_sub hP [0] rfl
          refine z_rdv (va_runV (As := []) (rest := []) ⟨hx, hb, hml, hown, hts⟩ (c_X9_altitude l E xa na ma mb ad tx ln nx ct f0 f1 g ga gb v hw) (cwV 0 hts gL_holds_X9_altitude rfl rfl rfl (by decide +kernel) ⟨Nat.le_of_ble_eq_true rfl, Nat.le_of_ble_eq_true rfl⟩) ⟨zPr.blind, va_recv hK.1 hPc (ci := 8) (q0 := 0) rfl rfl, z_prer hK hPc⟩ rfl rfl hl.1 rfl (lv_room (Nat.le_of_ble_eq_true rfl)) dL_holds_388 ⟨(by show _ ≤ 107; omega), (by show _ ≤ 642; omega)⟩) ?_
          refine W.eq (g2 := F0 Mi 391 ls [.int (m_std (g 0) - m_std (g 1))]) rfl ?_
          refine z_rdv (va_runS (As := [.int (m_std (g 0) - m_std (g 1))]) (rest := []) ⟨hx, hb, hml, hown, hts⟩ (c_L_size l E (m_std (g 0) - m_std (g 1))) (va_cwS 1 hts gL_holds_L_size rfl rfl rfl (by decide +kernel) ⟨Nat.le_of_ble_eq_true rfl, Nat.le_of_ble_eq_true rfl⟩) ⟨zPr.blind, z_prer hK zP_nil⟩ rfl rfl hl.1 rfl (lv_room (Nat.le_of_ble_eq_true rfl)) dL_holds_391 ⟨(by show _ ≤ 107; omega), (by show _ ≤ 642; omega)⟩) ?_
          refine W.eq (g2 := F0 Mi 394 ls [.int (m_abs (m_std (g 0) - m_std (g 1)))]) rfl ?_
          refine lv_ldc hx hb hown (hts (.constant RL 129 (80000)) (by decide +kernel)) dL_holds_394 ?_
          refine lv_icmp_ge (tgt := 403) hx hb dL_holds_396 (by decide) (fun h9 => absurd h9 (h_sz hg)) (fun _ => ?_)
          refine lv_iconst (v := 1) hx hb dL_holds_399 (by decide) ?_
          refine lv_goto (tgt := 404) hx hb dL_holds_400 (by decide) ?_
          refine W.widen (k := 107) (n := 642) (by omega) (by omega) ?_
          have hP : va_P E.1 vwCl ([(z_W E xa na ma mb ad tx ln nx ct f0 f1 g ga gb v).flatten] : List va_W).flatten H := zf_sub hP [0] rfl
          have hD : va_D A ([(z_W E xa na ma mb ad tx ln nx ct f0 f1 g ga gb v).flatten] : List va_W).flatten := zf_subD hD [0] (by decide) rfl
          refine vx_ret ?_
          exact W.zret (v := 1) hx hb hr rfl (z_ende trivial hP hD hS rfl) hS.2.2 dL_holds_404 hlocks
        · refine lv_aload_n hx hb dL_holds_380 rfl (lv_at hl 0 rfl) ?_
          have hPc : va_P E.1 vwCl ([(z_W E xa na ma mb ad tx ln nx ct f0 f1 g ga gb v).flatten] : List va_W).flatten H := zf_sub hP [0] rfl
          refine z_rdv (va_runV (As := []) (rest := []) ⟨hx, hb, hml, hown, hts⟩ (c_X9_isStation l E xa na ma mb ad tx ln nx ct f0 f1 g ga gb v hw) (cwV 0 hts gL_holds_X9_isStation rfl rfl rfl (by decide +kernel) ⟨Nat.le_of_ble_eq_true rfl, Nat.le_of_ble_eq_true rfl⟩) ⟨zPr.blind, va_recv hK.1 hPc (ci := 8) (q0 := 0) rfl rfl, z_prer hK hPc⟩ rfl rfl hl.1 rfl (lv_room (Nat.le_of_ble_eq_true rfl)) dL_holds_381 ⟨(by show _ ≤ 107; omega), (by show _ ≤ 642; omega)⟩) ?_
          refine W.eq (g2 := F0 Mi 384 ls [.int (g 2)]) rfl ?_
          refine lv_if_eq (tgt := 403) hx hb dL_holds_384 (by decide) (fun h9 => absurd h9 (h_al hg c_377)) (fun _ => ?_)
          refine lv_aload_n hx hb dL_holds_387 rfl (lv_at hl 0 rfl) ?_
          have hPc : va_P E.1 vwCl ([(z_W E xa na ma mb ad tx ln nx ct f0 f1 g ga gb v).flatten] : List va_W).flatten H := zf_sub hP [0] rfl
          refine z_rdv (va_runV (As := []) (rest := []) ⟨hx, hb, hml, hown, hts⟩ (c_X9_altitude l E xa na ma mb ad tx ln nx ct f0 f1 g ga gb v hw) (cwV 0 hts gL_holds_X9_altitude rfl rfl rfl (by decide +kernel) ⟨Nat.le_of_ble_eq_true rfl, Nat.le_of_ble_eq_true rfl⟩) ⟨zPr.blind, va_recv hK.1 hPc (ci := 8) (q0 := 0) rfl rfl, z_prer hK hPc⟩ rfl rfl hl.1 rfl (lv_room (Nat.le_of_ble_eq_true rfl)) dL_holds_388 ⟨(by show _ ≤ 107; omega), (by show _ ≤ 642; omega)⟩) ?_
          refine W.eq (g2 := F0 Mi 391 ls [.int (m_std (g 0) - m_std (g 1))]) rfl ?_
          refine z_rdv (va_runS (As := [.int (m_std (g 0) - m_std (g 1))]) (rest := []) ⟨hx, hb, hml, hown, hts⟩ (c_L_size l E (m_std (g 0) - m_std (g 1))) (va_cwS 1 hts gL_holds_L_size rfl rfl rfl (by decide +kernel) ⟨Nat.le_of_ble_eq_true rfl, Nat.le_of_ble_eq_true rfl⟩) ⟨zPr.blind, z_prer hK zP_nil⟩ rfl rfl hl.1 rfl (lv_room (Nat.le_of_ble_eq_true rfl)) dL_holds_391 ⟨(by show _ ≤ 107; omega), (by show _ ≤ 642; omega)⟩) ?_
          refine W.eq (g2 := F0 Mi 394 ls [.int (m_abs (m_std (g 0) - m_std (g 1)))]) rfl ?_
          refine lv_ldc hx hb hown (hts (.constant RL 129 (80000)) (by decide +kernel)) dL_holds_394 ?_
          refine lv_icmp_ge (tgt := 403) hx hb dL_holds_396 (by decide) (fun h9 => absurd h9 (h_sz hg)) (fun _ => ?_)
          refine lv_iconst (v := 1) hx hb dL_holds_399 (by decide) ?_
          refine lv_goto (tgt := 404) hx hb dL_holds_400 (by decide) ?_
          refine W.widen (k := 107) (n := 642) (by omega) (by omega) ?_
          have hP : va_P E.1 vwCl ([(z_W E xa na ma mb ad tx ln nx ct f0 f1 g ga gb v).flatten] : List va_W).flatten H := zf_sub hP [0] rfl
          have hD : va_D A ([(z_W E xa na ma mb ad tx ln nx ct f0 f1 g ga gb v).flatten] : List va_W).flatten := zf_subD hD [0] (by decide) rfl
          refine vx_ret ?_
          exact W.zret (v := 1) hx hb hr rfl (z_ende trivial hP hD hS rfl) hS.2.2 dL_holds_404 hlocks
      · have hkm : k < m_n (g 75) := cl_lt hg h4 c_299
        have hkt := cl_m hg
        refine lv_iload hx hb dL_holds_302 (lv_at hl 1 rfl) ?_
        refine lv_if_eq (tgt := 359) hx hb dL_holds_304 (by decide) (fun h9 => absurd h9 ((by decide))) (fun _ => ?_)
        refine lv_aload_n hx hb dL_holds_307 rfl (lv_at hl 0 rfl) ?_
        refine lv_iconst (v := 0) hx hb dL_holds_308 (by decide) ?_
        refine lv_iload hx hb dL_holds_309 (lv_at hl 2 rfl) ?_
        have ph_311 : (0 ≤ (0 : Int32) ∧ (0 : Int32) < g 75) ∧ (0 ≤ (nI k) ∧ (nI k) < g 75) := ⟨cl_i hg (i := 0) (by omega), cl_i hg (i := k) (by omega)⟩
        have hPc : va_P E.1 vwCl ([(z_W E xa na ma mb ad tx ln nx ct f0 f1 g ga gb v).flatten] : List va_W).flatten H := zf_sub hP [0] rfl
        have hDc : va_D A ([(z_W E xa na ma mb ad tx ln nx ct f0 f1 g ga gb v).flatten] : List va_W).flatten := zf_subD hD [0] (by decide) rfl
        refine z_xmut (Sc := [(z_W E xa na ma mb ad tx ln nx ct f0 f1 g ga gb v).flatten]) (Sr := []) (W1 := [(z_W E xa na ma mb ad tx ln nx ct f0 f1 g ga gb v).flatten]) (vx_runV (As := [.int 0, .int (nI k)]) (rest := []) ⟨hx, hb, hml, hown, hts⟩ (c_X9_climbed l E sa hl0 xa na ma mb ad tx ln nx ct f0 f1 g ga gb v hw 0 (nI k) H.size) (cwV 2 hts gL_holds_X9_climbed rfl rfl rfl (by decide +kernel) ⟨Nat.le_of_ble_eq_true rfl, Nat.le_of_ble_eq_true rfl⟩) ⟨zPE.blind, va_recv hK.1 hPc (ci := 8) (q0 := 0) rfl rfl, z_preE hK hT hZ hS (zf_free hD hS hA [0] rfl) hPc hDc⟩ rfl rfl hl.1 rfl (lv_room (Nat.le_of_ble_eq_true rfl)) dL_holds_311 ⟨(by show _ ≤ 107; omega), (by show _ ≤ 642; omega)⟩) hP hD hS hA [0] [] rfl rfl (by decide) (by decide) (fun Ex ce q9 H locs hps hP hD hS hce hcv hcl => ?_) (fun H locs _ hP hD hS => ?_)
        · exact (absurd ph_311 hps.2)
        have hP : va_P E.1 vwCl ([(z_W E xa na ma mb ad tx ln nx ct f0 f1 g ga gb v).flatten] : List va_W).flatten H := hP
        have hD : va_D A ([(z_W E xa na ma mb ad tx ln nx ct f0 f1 g ga gb v).flatten] : List va_W).flatten := hD
        refine W.eq (g2 := F0 Mi 314 ls [.int (m_el 10 (z_tr 10 (fun k => g (4 * k + 78))) (nI k) - m_el 10 (z_tr 10 (fun k => g (4 * k + 78))) (0 : Int32))]) rfl ?_
        refine lv_aload_n hx hb dL_holds_314 rfl (lv_at hl 0 rfl) ?_
        refine lv_iload hx hb dL_holds_315 (lv_at hl 2 rfl) ?_
        refine lv_iconst (v := 0) hx hb dL_holds_317 (by decide) ?_
        have ph_318 : (0 ≤ (nI k) ∧ (nI k) < g 75) ∧ (0 ≤ (0 : Int32) ∧ (0 : Int32) < g 75) := ⟨cl_i hg (i := k) (by omega), cl_i hg (i := 0) (by omega)⟩
        have hPc : va_P E.1 vwCl ([(z_W E xa na ma mb ad tx ln nx ct f0 f1 g ga gb v).flatten] : List va_W).flatten H := zf_sub hP [0] rfl
        have hDc : va_D A ([(z_W E xa na ma mb ad tx ln nx ct f0 f1 g ga gb v).flatten] : List va_W).flatten := zf_subD hD [0] (by decide) rfl
        refine z_xmut (Sc := [(z_W E xa na ma mb ad tx ln nx ct f0 f1 g ga gb v).flatten]) (Sr := []) (W1 := [(z_W E xa na ma mb ad tx ln nx ct f0 f1 g ga gb v).flatten]) (vx_runV (As := [.int (nI k), .int 0]) (rest := [.int (m_el 10 (z_tr 10 (fun k => g (4 * k + 78))) (nI k) - m_el 10 (z_tr 10 (fun k => g (4 * k + 78))) (0 : Int32))]) ⟨hx, hb, hml, hown, hts⟩ (c_X9_climbed l E sa hl0 xa na ma mb ad tx ln nx ct f0 f1 g ga gb v hw (nI k) 0 H.size) (cwV 2 hts gL_holds_X9_climbed rfl rfl rfl (by decide +kernel) ⟨Nat.le_of_ble_eq_true rfl, Nat.le_of_ble_eq_true rfl⟩) ⟨zPE.blind, va_recv hK.1 hPc (ci := 8) (q0 := 0) rfl rfl, z_preE hK hT hZ hS (zf_free hD hS hA [0] rfl) hPc hDc⟩ rfl rfl hl.1 rfl (lv_room (Nat.le_of_ble_eq_true rfl)) dL_holds_318 ⟨(by show _ ≤ 107; omega), (by show _ ≤ 642; omega)⟩) hP hD hS hA [0] [] rfl rfl (by decide) (by decide) (fun Ex ce q9 H locs hps hP hD hS hce hcv hcl => ?_) (fun H locs _ hP hD hS => ?_)
        · exact (absurd ph_318 hps.2)
        have hP : va_P E.1 vwCl ([(z_W E xa na ma mb ad tx ln nx ct f0 f1 g ga gb v).flatten] : List va_W).flatten H := hP
        have hD : va_D A ([(z_W E xa na ma mb ad tx ln nx ct f0 f1 g ga gb v).flatten] : List va_W).flatten := hD
        refine W.eq (g2 := F0 Mi 321 ls [.int (m_el 10 (z_tr 10 (fun k => g (4 * k + 78))) (0 : Int32) - m_el 10 (z_tr 10 (fun k => g (4 * k + 78))) (nI k)), .int (m_el 10 (z_tr 10 (fun k => g (4 * k + 78))) (nI k) - m_el 10 (z_tr 10 (fun k => g (4 * k + 78))) (0 : Int32))]) rfl ?_
        refine lv_ineg hx hb dL_holds_321 ?_
        refine lv_icmp_ne (tgt := 359) hx hb dL_holds_322 (by decide) (fun h9 => absurd (k_neg _ _) h9) (fun _ => ?_)
        refine lv_aload_n hx hb dL_holds_325 rfl (lv_at hl 0 rfl) ?_
        refine lv_iconst (v := 0) hx hb dL_holds_326 (by decide) ?_
        refine lv_iload hx hb dL_holds_327 (lv_at hl 2 rfl) ?_
        have ph_329 : (0 ≤ (0 : Int32) ∧ (0 : Int32) < g 75) ∧ (0 ≤ (nI k) ∧ (nI k) < g 75) := ⟨cl_i hg (i := 0) (by omega), cl_i hg (i := k) (by omega)⟩
        have hPc : va_P E.1 vwCl ([(z_W E xa na ma mb ad tx ln nx ct f0 f1 g ga gb v).flatten] : List va_W).flatten H := zf_sub hP [0] rfl
        have hDc : va_D A ([(z_W E xa na ma mb ad tx ln nx ct f0 f1 g ga gb v).flatten] : List va_W).flatten := zf_subD hD [0] (by decide) rfl
        refine z_xmut (Sc := [(z_W E xa na ma mb ad tx ln nx ct f0 f1 g ga gb v).flatten]) (Sr := []) (W1 := [(z_W E xa na ma mb ad tx ln nx ct f0 f1 g ga gb v).flatten]) (vx_runV (As := [.int 0, .int (nI k)]) (rest := []) ⟨hx, hb, hml, hown, hts⟩ (c_X9_climbed l E sa hl0 xa na ma mb ad tx ln nx ct f0 f1 g ga gb v hw 0 (nI k) H.size) (cwV 2 hts gL_holds_X9_climbed rfl rfl rfl (by decide +kernel) ⟨Nat.le_of_ble_eq_true rfl, Nat.le_of_ble_eq_true rfl⟩) ⟨zPE.blind, va_recv hK.1 hPc (ci := 8) (q0 := 0) rfl rfl, z_preE hK hT hZ hS (zf_free hD hS hA [0] rfl) hPc hDc⟩ rfl rfl hl.1 rfl (lv_room (Nat.le_of_ble_eq_true rfl)) dL_holds_329 ⟨(by show _ ≤ 107; omega), (by show _ ≤ 642; omega)⟩) hP hD hS hA [0] [] rfl rfl (by decide) (by decide) (fun Ex ce q9 H locs hps hP hD hS hce hcv hcl => ?_) (fun H locs _ hP hD hS => ?_)
        · exact (absurd ph_329 hps.2)
        have hP : va_P E.1 vwCl ([(z_W E xa na ma mb ad tx ln nx ct f0 f1 g ga gb v).flatten] : List va_W).flatten H := hP
        have hD : va_D A ([(z_W E xa na ma mb ad tx ln nx ct f0 f1 g ga gb v).flatten] : List va_W).flatten := hD
        refine W.eq (g2 := F0 Mi 332 ls [.int (m_el 10 (z_tr 10 (fun k => g (4 * k + 78))) (nI k) - m_el 10 (z_tr 10 (fun k => g (4 * k + 78))) (0 : Int32))]) rfl ?_
        refine lv_aload_n hx hb dL_holds_332 rfl (lv_at hl 0 rfl) ?_
        refine lv_iconst (v := 0) hx hb dL_holds_333 (by decide) ?_
        refine lv_iload hx hb dL_holds_334 (lv_at hl 2 rfl) ?_
        refine lv_iconst (v := 1) hx hb dL_holds_336 (by decide) ?_
        refine lv_isub hx hb dL_holds_337 ?_
        refine z_topi (y := nI (k - 1)) (pk_sub (b := 1) h2) ?_
        have ph_338 : (0 ≤ (0 : Int32) ∧ (0 : Int32) < g 75) ∧ (0 ≤ (nI (k - 1)) ∧ (nI (k - 1)) < g 75) := ⟨cl_i hg (i := 0) (by omega), cl_i hg (i := k - 1) (by omega)⟩
        have hPc : va_P E.1 vwCl ([(z_W E xa na ma mb ad tx ln nx ct f0 f1 g ga gb v).flatten] : List va_W).flatten H := zf_sub hP [0] rfl
        have hDc : va_D A ([(z_W E xa na ma mb ad tx ln nx ct f0 f1 g ga gb v).flatten] : List va_W).flatten := zf_subD hD [0] (by decide) rfl
        refine z_xmut (Sc := [(z_W E xa na ma mb ad tx ln nx ct f0 f1 g ga gb v).flatten]) (Sr := []) (W1 := [(z_W E xa na ma mb ad tx ln nx ct f0 f1 g ga gb v).flatten]) (vx_runV (As := [.int 0, .int (nI (k - 1))]) (rest := [.int (m_el 10 (z_tr 10 (fun k => g (4 * k + 78))) (nI k) - m_el 10 (z_tr 10 (fun k => g (4 * k + 78))) (0 : Int32))]) ⟨hx, hb, hml, hown, hts⟩ (c_X9_climbed l E sa hl0 xa na ma mb ad tx ln nx ct f0 f1 g ga gb v hw 0 (nI (k - 1)) H.size) (cwV 2 hts gL_holds_X9_climbed rfl rfl rfl (by decide +kernel) ⟨Nat.le_of_ble_eq_true rfl, Nat.le_of_ble_eq_true rfl⟩) ⟨zPE.blind, va_recv hK.1 hPc (ci := 8) (q0 := 0) rfl rfl, z_preE hK hT hZ hS (zf_free hD hS hA [0] rfl) hPc hDc⟩ rfl rfl hl.1 rfl (lv_room (Nat.le_of_ble_eq_true rfl)) dL_holds_338 ⟨(by show _ ≤ 107; omega), (by show _ ≤ 642; omega)⟩) hP hD hS hA [0] [] rfl rfl (by decide) (by decide) (fun Ex ce q9 H locs hps hP hD hS hce hcv hcl => ?_) (fun H locs _ hP hD hS => ?_)
        · exact (absurd ph_338 hps.2)
        have hP : va_P E.1 vwCl ([(z_W E xa na ma mb ad tx ln nx ct f0 f1 g ga gb v).flatten] : List va_W).flatten H := hP
        have hD : va_D A ([(z_W E xa na ma mb ad tx ln nx ct f0 f1 g ga gb v).flatten] : List va_W).flatten := hD
        refine W.eq (g2 := F0 Mi 341 ls [.int (m_el 10 (z_tr 10 (fun k => g (4 * k + 78))) (nI (k - 1)) - m_el 10 (z_tr 10 (fun k => g (4 * k + 78))) (0 : Int32)), .int (m_el 10 (z_tr 10 (fun k => g (4 * k + 78))) (nI k) - m_el 10 (z_tr 10 (fun k => g (4 * k + 78))) (0 : Int32))]) rfl ?_
        refine lv_aload_n hx hb dL_holds_341 rfl (lv_at hl 0 rfl) ?_
        refine lv_iload hx hb dL_holds_342 (lv_at hl 2 rfl) ?_
        refine lv_iconst (v := 1) hx hb dL_holds_344 (by decide) ?_
        refine lv_isub hx hb dL_holds_345 ?_
        refine z_topi (y := nI (k - 1)) (pk_sub (b := 1) h2) ?_
        refine lv_iload hx hb dL_holds_346 (lv_at hl 2 rfl) ?_
        have ph_348 : (0 ≤ (nI (k - 1)) ∧ (nI (k - 1)) < g 75) ∧ (0 ≤ (nI k) ∧ (nI k) < g 75) := ⟨cl_i hg (i := k - 1) (by omega), cl_i hg (i := k) (by omega)⟩
        have hPc : va_P E.1 vwCl ([(z_W E xa na ma mb ad tx ln nx ct f0 f1 g ga gb v).flatten] : List va_W).flatten H := zf_sub hP [0] rfl
        have hDc : va_D A ([(z_W E xa na ma mb ad tx ln nx ct f0 f1 g ga gb v).flatten] : List va_W).flatten := zf_subD hD [0] (by decide) rfl
        refine z_xmut (Sc := [(z_W E xa na ma mb ad tx ln nx ct f0 f1 g ga gb v).flatten]) (Sr := []) (W1 := [(z_W E xa na ma mb ad tx ln nx ct f0 f1 g ga gb v).flatten]) (vx_runV (As := [.int (nI (k - 1)), .int (nI k)]) (rest := [.int (m_el 10 (z_tr 10 (fun k => g (4 * k + 78))) (nI (k - 1)) - m_el 10 (z_tr 10 (fun k => g (4 * k + 78))) (0 : Int32)), .int (m_el 10 (z_tr 10 (fun k => g (4 * k + 78))) (nI k) - m_el 10 (z_tr 10 (fun k => g (4 * k + 78))) (0 : Int32))]) ⟨hx, hb, hml, hown, hts⟩ (c_X9_climbed l E sa hl0 xa na ma mb ad tx ln nx ct f0 f1 g ga gb v hw (nI (k - 1)) (nI k) H.size) (cwV 2 hts gL_holds_X9_climbed rfl rfl rfl (by decide +kernel) ⟨Nat.le_of_ble_eq_true rfl, Nat.le_of_ble_eq_true rfl⟩) ⟨zPE.blind, va_recv hK.1 hPc (ci := 8) (q0 := 0) rfl rfl, z_preE hK hT hZ hS (zf_free hD hS hA [0] rfl) hPc hDc⟩ rfl rfl hl.1 rfl (lv_room (Nat.le_of_ble_eq_true rfl)) dL_holds_348 ⟨(by show _ ≤ 107; omega), (by show _ ≤ 642; omega)⟩) hP hD hS hA [0] [] rfl rfl (by decide) (by decide) (fun Ex ce q9 H locs hps hP hD hS hce hcv hcl => ?_) (fun H locs _ hP hD hS => ?_)
        · exact (absurd ph_348 hps.2)
        have hP : va_P E.1 vwCl ([(z_W E xa na ma mb ad tx ln nx ct f0 f1 g ga gb v).flatten] : List va_W).flatten H := hP
        have hD : va_D A ([(z_W E xa na ma mb ad tx ln nx ct f0 f1 g ga gb v).flatten] : List va_W).flatten := hD
        refine W.eq (g2 := F0 Mi 351 ls [.int (m_el 10 (z_tr 10 (fun k => g (4 * k + 78))) (nI k) - m_el 10 (z_tr 10 (fun k => g (4 * k + 78))) (nI (k - 1))), .int (m_el 10 (z_tr 10 (fun k => g (4 * k + 78))) (nI (k - 1)) - m_el 10 (z_tr 10 (fun k => g (4 * k + 78))) (0 : Int32)), .int (m_el 10 (z_tr 10 (fun k => g (4 * k + 78))) (nI k) - m_el 10 (z_tr 10 (fun k => g (4 * k + 78))) (0 : Int32))]) rfl ?_
        refine lv_iadd hx hb dL_holds_351 ?_
        refine lv_icmp_ne (tgt := 359) hx hb dL_holds_352 (by decide) (fun h9 => absurd (k_tri _ _ _) h9) (fun _ => ?_)
        refine lv_iconst (v := 1) hx hb dL_holds_355 (by decide) ?_
        refine lv_goto (tgt := 360) hx hb dL_holds_356 (by decide) ?_
        refine lv_istore (lv' := [(6, .int 1), (0, .ref (xa 0)), (7, .int (nI k))]) hx hb dL_holds_360 hl (by decide) rfl (fun ls hl => ?_)
        refine lv_iinc (v := nI (k + 1)) (lv' := [(7, .int (nI (k + 1))), (6, .int 1), (0, .ref (xa 0))]) hx hb dL_holds_362 hl (k := 2) rfl (nI_add k 1) (by decide) rfl (fun ls hl => ?_)
        refine lv_goto (tgt := 293) hx hb dL_holds_365 (by decide) ?_
        refine W.widen (k := (10 * (k + 1) + 7)) (n := (60 * (k + 1) + 42)) (by omega) (by omega) ?_
        exact ih (k + 1) (by omega) (by omega) (by have := cl_m hg; omega) _ _ (zf_sub hP [0] rfl) (zf_subD hD [0] (by decide) rfl) hS ls (lv_sub hl [2, 1, 0] rfl)
  have LOOP_186 : ∀ (n : Nat) , 0 < n →  ∀ (H : Heap) (locs : List Loc), va_P E.1 vwCl ([(z_W E xa na ma mb ad tx ln nx ct f0 f1 g ga gb v).flatten] : List va_W).flatten H → va_D A ([(z_W E xa na ma mb ad tx ln nx ct f0 f1 g ga gb v).flatten] : List va_W).flatten → va_S A s.heap H locs → ∀ (ls : Array Slot), lv_has ls 8 [(0, .ref (xa 0))] → W Pg l En ({ frames := 8, cells := 107, slots := 642, locals := 133 } : Room) s Mi ([.ref (xa 0), .int x] : List Value).toArray below meth Cd H locs 7 42 (vx_MQ below (zQ (some (.int 1)) (fun H => (True) ∧ zB E ([(z_W E xa na ma mb ad tx ln nx ct f0 f1 g ga gb v).flatten] : List va_W).flatten A H) A) (zXC E ([(z_W E xa na ma mb ad tx ln nx ct f0 f1 g ga gb v).flatten] : List va_W).flatten (fun _ => False) A) ([.ref (xa 0), .int x] : List Value).toArray s 107 642 A) (F0 Mi 186 ls []) := by
    intro n
    induction n with
    | zero => intro  h1; exact absurd h1 (by omega)
    | succ n ih =>
      intro  h1 H locs hP hD hS ls hl
      refine lv_iconst (v := 1) hx hb dL_holds_186 (by decide) ?_
      refine lv_goto (tgt := 191) hx hb dL_holds_187 (by decide) ?_
      refine lv_istore (lv' := [(6, .int 1), (0, .ref (xa 0))]) hx hb dL_holds_191 hl (by decide) rfl (fun ls hl => ?_)
      refine lv_iload hx hb dL_holds_193 (lv_at hl 0 rfl) ?_
      refine lv_if_eq (tgt := 287) hx hb dL_holds_195 (by decide) (fun h9 => absurd h9 ((by decide))) (fun _ => ?_)
      refine lv_aload_n hx hb dL_holds_198 rfl (lv_at hl 1 rfl) ?_
      have hPc : va_P E.1 vwCl ([(z_W E xa na ma mb ad tx ln nx ct f0 f1 g ga gb v).flatten] : List va_W).flatten H := zf_sub hP [0] rfl
      refine z_rdv (va_runV (As := []) (rest := []) ⟨hx, hb, hml, hown, hts⟩ (c_X9_fall l E xa na ma mb ad tx ln nx ct f0 f1 g ga gb v hw) (cwV 0 hts gL_holds_X9_fall rfl rfl rfl (by decide +kernel) ⟨Nat.le_of_ble_eq_true rfl, Nat.le_of_ble_eq_true rfl⟩) ⟨zPr.blind, va_recv hK.1 hPc (ci := 8) (q0 := 0) rfl rfl, z_prer hK hPc⟩ rfl rfl hl.1 rfl (lv_room (Nat.le_of_ble_eq_true rfl)) dL_holds_199 ⟨Nat.le_of_ble_eq_true rfl, Nat.le_of_ble_eq_true rfl⟩) ?_
      refine W.eq (g2 := F0 Mi 202 ls [.int (m_fall (m_n (g 14)) (m_log g))]) rfl ?_
      refine lv_if_lt (tgt := 287) hx hb dL_holds_202 (by decide) (fun h9 => absurd h9 (h_f0 hg)) (fun _ => ?_)
      refine lv_aload_n hx hb dL_holds_205 rfl (lv_at hl 1 rfl) ?_
      have hPc : va_P E.1 vwCl ([(z_W E xa na ma mb ad tx ln nx ct f0 f1 g ga gb v).flatten] : List va_W).flatten H := zf_sub hP [0] rfl
      refine z_rdv (va_runV (As := []) (rest := []) ⟨hx, hb, hml, hown, hts⟩ (c_X9_fall l E xa na ma mb ad tx ln nx ct f0 f1 g ga gb v hw) (cwV 0 hts gL_holds_X9_fall rfl rfl rfl (by decide +kernel) ⟨Nat.le_of_ble_eq_true rfl, Nat.le_of_ble_eq_true rfl⟩) ⟨zPr.blind, va_recv hK.1 hPc (ci := 8) (q0 := 0) rfl rfl, z_prer hK hPc⟩ rfl rfl hl.1 rfl (lv_room (Nat.le_of_ble_eq_true rfl)) dL_holds_206 ⟨Nat.le_of_ble_eq_true rfl, Nat.le_of_ble_eq_true rfl⟩) ?_
      refine W.eq (g2 := F0 Mi 209 ls [.int (m_fall (m_n (g 14)) (m_log g))]) rfl ?_
      refine lv_sipush (v := 6000) hx hb dL_holds_209 (by decide) ?_
      refine lv_icmp_gt (tgt := 287) hx hb dL_holds_212 (by decide) (fun h9 => absurd h9 (h_f6 hg)) (fun _ => ?_)
      refine lv_aload_n hx hb dL_holds_215 rfl (lv_at hl 1 rfl) ?_
      have hPc : va_P E.1 vwCl ([(z_W E xa na ma mb ad tx ln nx ct f0 f1 g ga gb v).flatten] : List va_W).flatten H := zf_sub hP [0] rfl
      refine z_rdv (va_runV (As := []) (rest := []) ⟨hx, hb, hml, hown, hts⟩ (c_X9_logged l E xa na ma mb ad tx ln nx ct f0 f1 g ga gb v hw) (cwV 0 hts gL_holds_X9_logged rfl rfl rfl (by decide +kernel) ⟨Nat.le_of_ble_eq_true rfl, Nat.le_of_ble_eq_true rfl⟩) ⟨zPr.blind, va_recv hK.1 hPc (ci := 8) (q0 := 0) rfl rfl, z_prer hK hPc⟩ rfl rfl hl.1 rfl (lv_room (Nat.le_of_ble_eq_true rfl)) dL_holds_216 ⟨Nat.le_of_ble_eq_true rfl, Nat.le_of_ble_eq_true rfl⟩) ?_
      refine W.eq (g2 := F0 Mi 219 ls [.int (g 14)]) rfl ?_
      refine lv_bipush (v := 60) hx hb dL_holds_219 (by decide) ?_
      refine lv_icmp_gt (tgt := 287) hx hb dL_holds_221 (by decide) (fun h9 => absurd h9 (h_14 hg)) (fun _ => ?_)
      refine lv_aload_n hx hb dL_holds_224 rfl (lv_at hl 1 rfl) ?_
      have hPc : va_P E.1 vwCl ([(z_W E xa na ma mb ad tx ln nx ct f0 f1 g ga gb v).flatten] : List va_W).flatten H := zf_sub hP [0] rfl
      refine z_rdv (va_runV (As := []) (rest := []) ⟨hx, hb, hml, hown, hts⟩ (c_X9_isStation l E xa na ma mb ad tx ln nx ct f0 f1 g ga gb v hw) (cwV 0 hts gL_holds_X9_isStation rfl rfl rfl (by decide +kernel) ⟨Nat.le_of_ble_eq_true rfl, Nat.le_of_ble_eq_true rfl⟩) ⟨zPr.blind, va_recv hK.1 hPc (ci := 8) (q0 := 0) rfl rfl, z_prer hK hPc⟩ rfl rfl hl.1 rfl (lv_room (Nat.le_of_ble_eq_true rfl)) dL_holds_225 ⟨Nat.le_of_ble_eq_true rfl, Nat.le_of_ble_eq_true rfl⟩) ?_
      refine W.eq (g2 := F0 Mi 228 ls [.int (g 2)]) rfl ?_
      refine lv_if_ne (tgt := 245) hx hb dL_holds_228 (by decide) (fun c_228 => ?_) (fun c_228 => ?_)
      · refine lv_aload_n hx hb dL_holds_245 rfl (lv_at hl 1 rfl) ?_
        have hPc : va_P E.1 vwCl ([(z_W E xa na ma mb ad tx ln nx ct f0 f1 g ga gb v).flatten] : List va_W).flatten H := zf_sub hP [0] rfl
        refine z_rdv (va_runV (As := []) (rest := []) ⟨hx, hb, hml, hown, hts⟩ (c_X9_alarms l E xa na ma mb ad tx ln nx ct f0 f1 g ga gb v hw) (cwV 0 hts gL_holds_X9_alarms rfl rfl rfl (by decide +kernel) ⟨Nat.le_of_ble_eq_true rfl, Nat.le_of_ble_eq_true rfl⟩) ⟨zPr.blind, va_recv hK.1 hPc (ci := 8) (q0 := 0) rfl rfl, z_prer hK hPc⟩ rfl rfl hl.1 rfl (lv_room (Nat.le_of_ble_eq_true rfl)) dL_holds_246 ⟨Nat.le_of_ble_eq_true rfl, Nat.le_of_ble_eq_true rfl⟩) ?_
        refine W.eq (g2 := F0 Mi 249 ls [.int (g 12)]) rfl ?_
        refine lv_aload_n hx hb dL_holds_249 rfl (lv_at hl 1 rfl) ?_
        have hPc : va_P E.1 vwCl ([(z_W E xa na ma mb ad tx ln nx ct f0 f1 g ga gb v).flatten] : List va_W).flatten H := zf_sub hP [0] rfl
        refine z_rdv (va_runV (As := []) (rest := [.int (g 12)]) ⟨hx, hb, hml, hown, hts⟩ (c_X9_minutes l E xa na ma mb ad tx ln nx ct f0 f1 g ga gb v hw) (cwV 0 hts gL_holds_X9_minutes rfl rfl rfl (by decide +kernel) ⟨Nat.le_of_ble_eq_true rfl, Nat.le_of_ble_eq_true rfl⟩) ⟨zPr.blind, va_recv hK.1 hPc (ci := 8) (q0 := 0) rfl rfl, z_prer hK hPc⟩ rfl rfl hl.1 rfl (lv_room (Nat.le_of_ble_eq_true rfl)) dL_holds_250 ⟨Nat.le_of_ble_eq_true rfl, Nat.le_of_ble_eq_true rfl⟩) ?_
        refine W.eq (g2 := F0 Mi 253 ls [.int (g 4), .int (g 12)]) rfl ?_
        refine lv_icmp_gt (tgt := 287) hx hb dL_holds_253 (by decide) (fun h9 => absurd h9 (h_12 hT5 hg)) (fun _ => ?_)
        refine lv_aload_n hx hb dL_holds_256 rfl (lv_at hl 1 rfl) ?_
        have hPc : va_P E.1 vwCl ([(z_W E xa na ma mb ad tx ln nx ct f0 f1 g ga gb v).flatten] : List va_W).flatten H := zf_sub hP [0] rfl
        refine z_rdv (va_runV (As := []) (rest := []) ⟨hx, hb, hml, hown, hts⟩ (c_X9_climbShare l E xa na ma mb ad tx ln nx ct f0 f1 g ga gb v hw zd_dv) (cwV 0 hts gL_holds_X9_climbShare rfl rfl rfl (by decide +kernel) ⟨Nat.le_of_ble_eq_true rfl, Nat.le_of_ble_eq_true rfl⟩) ⟨zPr.blind, va_recv hK.1 hPc (ci := 8) (q0 := 0) rfl rfl, z_prer hK hPc⟩ rfl rfl hl.1 rfl (lv_room (Nat.le_of_ble_eq_true rfl)) dL_holds_257 ⟨Nat.le_of_ble_eq_true rfl, Nat.le_of_ble_eq_true rfl⟩) ?_
        refine W.eq (g2 := F0 Mi 260 ls [.double (m_shr (g 7) (g 8))]) rfl ?_
        refine lv_dconst0 hx hb dL_holds_260 ?_
        refine lv_dcmp hx hb dL_holds_261 ?_
        refine lv_if_lt (tgt := 287) hx hb dL_holds_262 (by decide) (fun h9 => absurd h9 ((h_sh hT5 hg).1)) (fun _ => ?_)
        refine lv_aload_n hx hb dL_holds_265 rfl (lv_at hl 1 rfl) ?_
        have hPc : va_P E.1 vwCl ([(z_W E xa na ma mb ad tx ln nx ct f0 f1 g ga gb v).flatten] : List va_W).flatten H := zf_sub hP [0] rfl
        refine z_rdv (va_runV (As := []) (rest := []) ⟨hx, hb, hml, hown, hts⟩ (c_X9_climbShare l E xa na ma mb ad tx ln nx ct f0 f1 g ga gb v hw zd_dv) (cwV 0 hts gL_holds_X9_climbShare rfl rfl rfl (by decide +kernel) ⟨Nat.le_of_ble_eq_true rfl, Nat.le_of_ble_eq_true rfl⟩) ⟨zPr.blind, va_recv hK.1 hPc (ci := 8) (q0 := 0) rfl rfl, z_prer hK hPc⟩ rfl rfl hl.1 rfl (lv_room (Nat.le_of_ble_eq_true rfl)) dL_holds_266 ⟨Nat.le_of_ble_eq_true rfl, Nat.le_of_ble_eq_true rfl⟩) ?_
        refine W.eq (g2 := F0 Mi 269 ls [.double (m_shr (g 7) (g 8))]) rfl ?_
        refine lv_dconst1 hx hb dL_holds_269 ?_
        refine lv_dcmp hx hb dL_holds_270 ?_
        refine lv_if_gt (tgt := 287) hx hb dL_holds_271 (by decide) (fun h9 => absurd h9 ((h_sh hT5 hg).2)) (fun _ => ?_)
        refine lv_aload_n hx hb dL_holds_274 rfl (lv_at hl 1 rfl) ?_
        have hPc : va_P E.1 vwCl ([(z_W E xa na ma mb ad tx ln nx ct f0 f1 g ga gb v).flatten] : List va_W).flatten H := zf_sub hP [0] rfl
        refine z_rdv (va_runV (As := []) (rest := []) ⟨hx, hb, hml, hown, hts⟩ (c_X9_marks l E xa na ma mb ad tx ln nx ct f0 f1 g ga gb v hw) (cwV 0 hts gL_holds_X9_marks rfl rfl rfl (by decide +kernel) ⟨Nat.le_of_ble_eq_true rfl, Nat.le_of_ble_eq_true rfl⟩) ⟨zPr.blind, va_recv hK.1 hPc (ci := 8) (q0 := 0) rfl rfl, z_prer hK hPc⟩ rfl rfl hl.1 rfl (lv_room (Nat.le_of_ble_eq_true rfl)) dL_holds_275 ⟨Nat.le_of_ble_eq_true rfl, Nat.le_of_ble_eq_true rfl⟩) ?_
        refine W.eq (g2 := F0 Mi 278 ls [.int (g 75)]) rfl ?_
        refine lv_bipush (v := 10) hx hb dL_holds_278 (by decide) ?_
        refine lv_icmp_gt (tgt := 287) hx hb dL_holds_280 (by decide) (fun h9 => absurd h9 (h_75 hg)) (fun _ => ?_)
        refine lv_iconst (v := 1) hx hb dL_holds_283 (by decide) ?_
        refine lv_goto (tgt := 288) hx hb dL_holds_284 (by decide) ?_
        refine lv_istore (lv' := [(6, .int 1), (0, .ref (xa 0))]) hx hb dL_holds_288 hl (by decide) rfl (fun ls hl => ?_)
        refine lv_iconst (v := 1) hx hb dL_holds_290 (by decide) ?_
        refine lv_istore (lv' := [(7, .int 1), (6, .int 1), (0, .ref (xa 0))]) hx hb dL_holds_291 hl (by decide) rfl (fun ls hl => ?_)
        refine W.widen (k := (10 * 1 + 7)) (n := (60 * 1 + 42)) (by decide) (by decide) ?_
        exact LOOP_293 10 1 (by decide) (Nat.le_refl _) (by decide) _ _ (zf_sub hP [0] rfl) (zf_subD hD [0] (by decide) rfl) hS ls (lv_sub hl [2, 1, 0] rfl)
      · refine lv_aload_n hx hb dL_holds_231 rfl (lv_at hl 1 rfl) ?_
        have hPc : va_P E.1 vwCl ([(z_W E xa na ma mb ad tx ln nx ct f0 f1 g ga gb v).flatten] : List va_W).flatten H := zf_sub hP [0] rfl
        refine z_rdv (va_runV (As := []) (rest := []) ⟨hx, hb, hml, hown, hts⟩ (c_X9_logged l E xa na ma mb ad tx ln nx ct f0 f1 g ga gb v hw) (cwV 0 hts gL_holds_X9_logged rfl rfl rfl (by decide +kernel) ⟨Nat.le_of_ble_eq_true rfl, Nat.le_of_ble_eq_true rfl⟩) ⟨zPr.blind, va_recv hK.1 hPc (ci := 8) (q0 := 0) rfl rfl, z_prer hK hPc⟩ rfl rfl hl.1 rfl (lv_room (Nat.le_of_ble_eq_true rfl)) dL_holds_232 ⟨Nat.le_of_ble_eq_true rfl, Nat.le_of_ble_eq_true rfl⟩) ?_
        refine W.eq (g2 := F0 Mi 235 ls [.int (g 14)]) rfl ?_
        refine lv_if_ne (tgt := 287) hx hb dL_holds_235 (by decide) (fun h9 => absurd (h_mv14 hg c_228) h9) (fun _ => ?_)
        refine lv_aload_n hx hb dL_holds_238 rfl (lv_at hl 1 rfl) ?_
        have hPc : va_P E.1 vwCl ([(z_W E xa na ma mb ad tx ln nx ct f0 f1 g ga gb v).flatten] : List va_W).flatten H := zf_sub hP [0] rfl
        refine z_rdv (va_runV (As := []) (rest := []) ⟨hx, hb, hml, hown, hts⟩ (c_X9_fall l E xa na ma mb ad tx ln nx ct f0 f1 g ga gb v hw) (cwV 0 hts gL_holds_X9_fall rfl rfl rfl (by decide +kernel) ⟨Nat.le_of_ble_eq_true rfl, Nat.le_of_ble_eq_true rfl⟩) ⟨zPr.blind, va_recv hK.1 hPc (ci := 8) (q0 := 0) rfl rfl, z_prer hK hPc⟩ rfl rfl hl.1 rfl (lv_room (Nat.le_of_ble_eq_true rfl)) dL_holds_239 ⟨Nat.le_of_ble_eq_true rfl, Nat.le_of_ble_eq_true rfl⟩) ?_
        refine W.eq (g2 := F0 Mi 242 ls [.int (m_fall (m_n (g 14)) (m_log g))]) rfl ?_
        refine lv_if_ne (tgt := 287) hx hb dL_holds_242 (by decide) (fun h9 => absurd (h_mvf hg c_228) h9) (fun _ => ?_)
        refine lv_aload_n hx hb dL_holds_245 rfl (lv_at hl 1 rfl) ?_
        have hPc : va_P E.1 vwCl ([(z_W E xa na ma mb ad tx ln nx ct f0 f1 g ga gb v).flatten] : List va_W).flatten H := zf_sub hP [0] rfl
        refine z_rdv (va_runV (As := []) (rest := []) ⟨hx, hb, hml, hown, hts⟩ (c_X9_alarms l E xa na ma mb ad tx ln nx ct f0 f1 g ga gb v hw) (cwV 0 hts gL_holds_X9_alarms rfl rfl rfl (by decide +kernel) ⟨Nat.le_of_ble_eq_true rfl, Nat.le_of_ble_eq_true rfl⟩) ⟨zPr.blind, va_recv hK.1 hPc (ci := 8) (q0 := 0) rfl rfl, z_prer hK hPc⟩ rfl rfl hl.1 rfl (lv_room (Nat.le_of_ble_eq_true rfl)) dL_holds_246 ⟨Nat.le_of_ble_eq_true rfl, Nat.le_of_ble_eq_true rfl⟩) ?_
        refine W.eq (g2 := F0 Mi 249 ls [.int (g 12)]) rfl ?_
        refine lv_aload_n hx hb dL_holds_249 rfl (lv_at hl 1 rfl) ?_
        have hPc : va_P E.1 vwCl ([(z_W E xa na ma mb ad tx ln nx ct f0 f1 g ga gb v).flatten] : List va_W).flatten H := zf_sub hP [0] rfl
        refine z_rdv (va_runV (As := []) (rest := [.int (g 12)]) ⟨hx, hb, hml, hown, hts⟩ (c_X9_minutes l E xa na ma mb ad tx ln nx ct f0 f1 g ga gb v hw) (cwV 0 hts gL_holds_X9_minutes rfl rfl rfl (by decide +kernel) ⟨Nat.le_of_ble_eq_true rfl, Nat.le_of_ble_eq_true rfl⟩) ⟨zPr.blind, va_recv hK.1 hPc (ci := 8) (q0 := 0) rfl rfl, z_prer hK hPc⟩ rfl rfl hl.1 rfl (lv_room (Nat.le_of_ble_eq_true rfl)) dL_holds_250 ⟨Nat.le_of_ble_eq_true rfl, Nat.le_of_ble_eq_true rfl⟩) ?_
        refine W.eq (g2 := F0 Mi 253 ls [.int (g 4), .int (g 12)]) rfl ?_
        refine lv_icmp_gt (tgt := 287) hx hb dL_holds_253 (by decide) (fun h9 => absurd h9 (h_12 hT5 hg)) (fun _ => ?_)
        refine lv_aload_n hx hb dL_holds_256 rfl (lv_at hl 1 rfl) ?_
        have hPc : va_P E.1 vwCl ([(z_W E xa na ma mb ad tx ln nx ct f0 f1 g ga gb v).flatten] : List va_W).flatten H := zf_sub hP [0] rfl
        refine z_rdv (va_runV (As := []) (rest := []) ⟨hx, hb, hml, hown, hts⟩ (c_X9_climbShare l E xa na ma mb ad tx ln nx ct f0 f1 g ga gb v hw zd_dv) (cwV 0 hts gL_holds_X9_climbShare rfl rfl rfl (by decide +kernel) ⟨Nat.le_of_ble_eq_true rfl, Nat.le_of_ble_eq_true rfl⟩) ⟨zPr.blind, va_recv hK.1 hPc (ci := 8) (q0 := 0) rfl rfl, z_prer hK hPc⟩ rfl rfl hl.1 rfl (lv_room (Nat.le_of_ble_eq_true rfl)) dL_holds_257 ⟨Nat.le_of_ble_eq_true rfl, Nat.le_of_ble_eq_true rfl⟩) ?_
        refine W.eq (g2 := F0 Mi 260 ls [.double (m_shr (g 7) (g 8))]) rfl ?_
        refine lv_dconst0 hx hb dL_holds_260 ?_
        refine lv_dcmp hx hb dL_holds_261 ?_
        refine lv_if_lt (tgt := 287) hx hb dL_holds_262 (by decide) (fun h9 => absurd h9 ((h_sh hT5 hg).1)) (fun _ => ?_)
        refine lv_aload_n hx hb dL_holds_265 rfl (lv_at hl 1 rfl) ?_
        have hPc : va_P E.1 vwCl ([(z_W E xa na ma mb ad tx ln nx ct f0 f1 g ga gb v).flatten] : List va_W).flatten H := zf_sub hP [0] rfl
        refine z_rdv (va_runV (As := []) (rest := []) ⟨hx, hb, hml, hown, hts⟩ (c_X9_climbShare l E xa na ma mb ad tx ln nx ct f0 f1 g ga gb v hw zd_dv) (cwV 0 hts gL_holds_X9_climbShare rfl rfl rfl (by decide +kernel) ⟨Nat.le_of_ble_eq_true rfl, Nat.le_of_ble_eq_true rfl⟩) ⟨zPr.blind, va_recv hK.1 hPc (ci := 8) (q0 := 0) rfl rfl, z_prer hK hPc⟩ rfl rfl hl.1 rfl (lv_room (Nat.le_of_ble_eq_true rfl)) dL_holds_266 ⟨Nat.le_of_ble_eq_true rfl, Nat.le_of_ble_eq_true rfl⟩) ?_
        refine W.eq (g2 := F0 Mi 269 ls [.double (m_shr (g 7) (g 8))]) rfl ?_
        refine lv_dconst1 hx hb dL_holds_269 ?_
        refine lv_dcmp hx hb dL_holds_270 ?_
        refine lv_if_gt (tgt := 287) hx hb dL_holds_271 (by decide) (fun h9 => absurd h9 ((h_sh hT5 hg).2)) (fun _ => ?_)
        refine lv_aload_n hx hb dL_holds_274 rfl (lv_at hl 1 rfl) ?_
        have hPc : va_P E.1 vwCl ([(z_W E xa na ma mb ad tx ln nx ct f0 f1 g ga gb v).flatten] : List va_W).flatten H := zf_sub hP [0] rfl
        refine z_rdv (va_runV (As := []) (rest := []) ⟨hx, hb, hml, hown, hts⟩ (c_X9_marks l E xa na ma mb ad tx ln nx ct f0 f1 g ga gb v hw) (cwV 0 hts gL_holds_X9_marks rfl rfl rfl (by decide +kernel) ⟨Nat.le_of_ble_eq_true rfl, Nat.le_of_ble_eq_true rfl⟩) ⟨zPr.blind, va_recv hK.1 hPc (ci := 8) (q0 := 0) rfl rfl, z_prer hK hPc⟩ rfl rfl hl.1 rfl (lv_room (Nat.le_of_ble_eq_true rfl)) dL_holds_275 ⟨Nat.le_of_ble_eq_true rfl, Nat.le_of_ble_eq_true rfl⟩) ?_
        refine W.eq (g2 := F0 Mi 278 ls [.int (g 75)]) rfl ?_
        refine lv_bipush (v := 10) hx hb dL_holds_278 (by decide) ?_
        refine lv_icmp_gt (tgt := 287) hx hb dL_holds_280 (by decide) (fun h9 => absurd h9 (h_75 hg)) (fun _ => ?_)
        refine lv_iconst (v := 1) hx hb dL_holds_283 (by decide) ?_
        refine lv_goto (tgt := 288) hx hb dL_holds_284 (by decide) ?_
        refine lv_istore (lv' := [(6, .int 1), (0, .ref (xa 0))]) hx hb dL_holds_288 hl (by decide) rfl (fun ls hl => ?_)
        refine lv_iconst (v := 1) hx hb dL_holds_290 (by decide) ?_
        refine lv_istore (lv' := [(7, .int 1), (6, .int 1), (0, .ref (xa 0))]) hx hb dL_holds_291 hl (by decide) rfl (fun ls hl => ?_)
        refine W.widen (k := (10 * 1 + 7)) (n := (60 * 1 + 42)) (by decide) (by decide) ?_
        exact LOOP_293 10 1 (by decide) (Nat.le_refl _) (by decide) _ _ (zf_sub hP [0] rfl) (zf_subD hD [0] (by decide) rfl) hS ls (lv_sub hl [2, 1, 0] rfl)
  rcases h_m_or hg (h := nI jh - 4000) (k := jh) rfl (by omega) with ⟨em, hm1⟩ | ⟨q, hq, em, hm1, hm2⟩
  · refine lv_sipush (v := 5000) hx hb dL_holds_0 (by decide) ?_
    refine lv_iload_n hx hb dL_holds_3 rfl (lv_at hl 1 rfl) ?_
    refine lv_sipush (v := 6000) hx hb dL_holds_4 (by decide) ?_
    refine z_rdv (va_runS (As := [.int x, .int 6000]) (rest := [.int 5000]) ⟨hx, hb, hml, hown, hts⟩ (c_L_up l E x 6000 (by decide)) (va_cwS 2 hts gL_holds_L_up rfl rfl rfl (by decide +kernel) ⟨Nat.le_of_ble_eq_true rfl, Nat.le_of_ble_eq_true rfl⟩) ⟨zPr.blind, z_prer hK zP_nil⟩ rfl rfl hl.1 rfl (lv_room (Nat.le_of_ble_eq_true rfl)) dL_holds_7 ⟨Nat.le_of_ble_eq_true rfl, Nat.le_of_ble_eq_true rfl⟩) ?_
    refine W.eq (g2 := F0 Mi 10 ls [.int (a_up x 6000), .int 5000]) rfl ?_
    refine z_topi (y := nI jp) ejp ?_
    refine lv_iadd hx hb dL_holds_10 ?_
    refine z_topi (y := nI (5000 + jp)) (nI_add 5000 jp) ?_
    refine lv_istore_n (lv' := [(2, .int (nI (5000 + jp))), (0, .ref (xa 0)), (1, .int x)]) hx hb dL_holds_11 rfl hl (by decide) rfl (fun ls hl => ?_)
    refine lv_iload_n hx hb dL_holds_12 rfl (lv_at hl 2 rfl) ?_
    refine lv_iconst (v := 3) hx hb dL_holds_13 (by decide) ?_
    refine lv_ishr hx hb dL_holds_14 ?_
    refine lv_ldc hx hb hown (hts (.constant RL 106 (40001)) (by decide +kernel)) dL_holds_15 ?_
    refine z_rdv (va_runS (As := [.int (x >>> (3 &&& 31)), .int (40001)]) (rest := []) ⟨hx, hb, hml, hown, hts⟩ (c_L_up l E (x >>> (3 &&& 31)) (40001) (by decide)) (va_cwS 2 hts gL_holds_L_up rfl rfl rfl (by decide +kernel) ⟨Nat.le_of_ble_eq_true rfl, Nat.le_of_ble_eq_true rfl⟩) ⟨zPr.blind, z_prer hK zP_nil⟩ rfl rfl hl.1 rfl (lv_room (Nat.le_of_ble_eq_true rfl)) dL_holds_17 ⟨Nat.le_of_ble_eq_true rfl, Nat.le_of_ble_eq_true rfl⟩) ?_
    refine W.eq (g2 := F0 Mi 20 ls [.int (a_up (x >>> (3 &&& 31)) (40001))]) rfl ?_
    refine z_topi (y := nI jh) ejh ?_
    refine lv_sipush (v := 4000) hx hb dL_holds_20 (by decide) ?_
    refine lv_isub hx hb dL_holds_23 ?_
    refine lv_istore_n (lv' := [(3, .int ((nI jh) - 4000)), (2, .int (nI (5000 + jp))), (0, .ref (xa 0)), (1, .int x)]) hx hb dL_holds_24 rfl hl (by decide) rfl (fun ls hl => ?_)
    refine lv_aload_n hx hb dL_holds_25 rfl (lv_at hl 2 rfl) ?_
    refine lv_iload_n hx hb dL_holds_26 rfl (lv_at hl 0 rfl) ?_
    have ph_27 : -5000 ≤ ((nI jh) - 4000) ∧ ((nI jh) - 4000) ≤ 50000 := h_hr (by omega)
    have hPc : va_P E.1 vwCl ([(z_W E xa na ma mb ad tx ln nx ct f0 f1 g ga gb v).flatten] : List va_W).flatten H := zf_sub hP [0] rfl
    have hDc : va_D A ([(z_W E xa na ma mb ad tx ln nx ct f0 f1 g ga gb v).flatten] : List va_W).flatten := zf_subD hD [0] (by decide) rfl
    refine z_xmut (Sc := [(z_W E xa na ma mb ad tx ln nx ct f0 f1 g ga gb v).flatten]) (Sr := []) (W1 := [(z_W E xa na ma mb ad tx ln nx ct f0 f1 g ga gb v).flatten]) (vx_runV (As := [.int ((nI jh) - 4000)]) (rest := []) ⟨hx, hb, hml, hown, hts⟩ (c_X9_pressureAt l E sa hl0 xa na ma mb ad tx ln nx ct f0 f1 g ga gb v hw ((nI jh) - 4000) H.size) (cwV 1 hts gL_holds_X9_pressureAt rfl rfl rfl (by decide +kernel) ⟨Nat.le_of_ble_eq_true rfl, Nat.le_of_ble_eq_true rfl⟩) ⟨zPE.blind, va_recv hK.1 hPc (ci := 8) (q0 := 0) rfl rfl, z_preE hK hT hZ hS (zf_free hD hS hA [0] rfl) hPc hDc⟩ rfl rfl hl.1 rfl (lv_room (Nat.le_of_ble_eq_true rfl)) dL_holds_27 ⟨Nat.le_of_ble_eq_true rfl, Nat.le_of_ble_eq_true rfl⟩) hP hD hS hA [0] [] rfl rfl (by decide) (by decide) (fun Ex ce q9 H locs hps hP hD hS hce hcv hcl => ?_) (fun H locs _ hP hD hS => ?_)
    · exact (absurd ph_27 hps.2)
    have hP : va_P E.1 vwCl ([(z_W E xa na ma mb ad tx ln nx ct f0 f1 g ga gb v).flatten] : List va_W).flatten H := hP
    have hD : va_D A ([(z_W E xa na ma mb ad tx ln nx ct f0 f1 g ga gb v).flatten] : List va_W).flatten := hD
    refine W.widen (k := 1) (n := 6) (by decide) (by decide) ?_
    refine W.eq (g2 := F0 Mi 30 ls [.int (m_down (((nI jh) - 4000) + m_std (g 1)) 5000 6001)]) rfl ?_
    refine z_topi (y := (-1)) em ?_
    refine lv_istore (lv' := [(4, .int (-1)), (3, .int ((nI jh) - 4000)), (2, .int (nI (5000 + jp))), (0, .ref (xa 0)), (1, .int x)]) hx hb dL_holds_30 hl (by decide) rfl (fun ls hl => ?_)
    refine lv_aload_n hx hb dL_holds_32 rfl (lv_at hl 3 rfl) ?_
    refine lv_aload_n hx hb dL_holds_33 rfl (lv_at hl 3 rfl) ?_
    have hPc : va_P E.1 vwCl ([(z_W E xa na ma mb ad tx ln nx ct f0 f1 g ga gb v).flatten] : List va_W).flatten H := zf_sub hP [0] rfl
    refine z_rdv (va_runV (As := []) (rest := [.ref (xa 0)]) ⟨hx, hb, hml, hown, hts⟩ (c_X9_sea l E xa na ma mb ad tx ln nx ct f0 f1 g ga gb v hw) (cwV 0 hts gL_holds_X9_sea rfl rfl rfl (by decide +kernel) ⟨Nat.le_of_ble_eq_true rfl, Nat.le_of_ble_eq_true rfl⟩) ⟨zPr.blind, va_recv hK.1 hPc (ci := 8) (q0 := 0) rfl rfl, z_prer hK hPc⟩ rfl rfl hl.1 rfl (lv_room (Nat.le_of_ble_eq_true rfl)) dL_holds_34 ⟨Nat.le_of_ble_eq_true rfl, Nat.le_of_ble_eq_true rfl⟩) ?_
    refine W.eq (g2 := F0 Mi 37 ls [.int (g 1), .ref (xa 0)]) rfl ?_
    have ph_37 : 5000 ≤ (g 1) ∧ (g 1) ≤ 11000 := h_s5 hg
    have hPc : va_P E.1 vwCl ([(z_W E xa na ma mb ad tx ln nx ct f0 f1 g ga gb v).flatten] : List va_W).flatten H := zf_sub hP [0] rfl
    have hDc : va_D A ([(z_W E xa na ma mb ad tx ln nx ct f0 f1 g ga gb v).flatten] : List va_W).flatten := zf_subD hD [0] (by decide) rfl
    refine z_xmut (Sc := [(z_W E xa na ma mb ad tx ln nx ct f0 f1 g ga gb v).flatten]) (Sr := []) (W1 := [(z_W E xa na ma mb ad tx ln nx ct f0 f1 g ga gb v).flatten]) (vx_runV (As := [.int (g 1)]) (rest := []) ⟨hx, hb, hml, hown, hts⟩ (c_X9_standard l E sa hl0 xa na ma mb ad tx ln nx ct f0 f1 g ga gb v hw (g 1) H.size) (cwV 1 hts gL_holds_X9_standard rfl rfl rfl (by decide +kernel) ⟨Nat.le_of_ble_eq_true rfl, Nat.le_of_ble_eq_true rfl⟩) ⟨zPE.blind, va_recv hK.1 hPc (ci := 8) (q0 := 0) rfl rfl, z_preE hK hT hZ hS (zf_free hD hS hA [0] rfl) hPc hDc⟩ rfl rfl hl.1 rfl (lv_room (Nat.le_of_ble_eq_true rfl)) dL_holds_37 ⟨Nat.le_of_ble_eq_true rfl, Nat.le_of_ble_eq_true rfl⟩) hP hD hS hA [0] [] rfl rfl (by decide) (by decide) (fun Ex ce q9 H locs hps hP hD hS hce hcv hcl => ?_) (fun H locs _ hP hD hS => ?_)
    · exact (absurd ph_37 hps.2)
    have hP : va_P E.1 vwCl ([(z_W E xa na ma mb ad tx ln nx ct f0 f1 g ga gb v).flatten] : List va_W).flatten H := hP
    have hD : va_D A ([(z_W E xa na ma mb ad tx ln nx ct f0 f1 g ga gb v).flatten] : List va_W).flatten := hD
    refine W.widen (k := 2) (n := 12) (by decide) (by decide) ?_
    refine W.eq (g2 := F0 Mi 40 ls [.int (m_std (g 1))]) rfl ?_
    refine lv_istore (lv' := [(5, .int (m_std (g 1))), (4, .int (-1)), (3, .int ((nI jh) - 4000)), (2, .int (nI (5000 + jp))), (0, .ref (xa 0)), (1, .int x)]) hx hb dL_holds_40 hl (by decide) rfl (fun ls hl => ?_)
    refine lv_aload_n hx hb dL_holds_42 rfl (lv_at hl 4 rfl) ?_
    have hPc : va_P E.1 vwCl ([(z_W E xa na ma mb ad tx ln nx ct f0 f1 g ga gb v).flatten] : List va_W).flatten H := zf_sub hP [0] rfl
    refine z_rdv (va_runV (As := []) (rest := []) ⟨hx, hb, hml, hown, hts⟩ (c_X9_altitude l E xa na ma mb ad tx ln nx ct f0 f1 g ga gb v hw) (cwV 0 hts gL_holds_X9_altitude rfl rfl rfl (by decide +kernel) ⟨Nat.le_of_ble_eq_true rfl, Nat.le_of_ble_eq_true rfl⟩) ⟨zPr.blind, va_recv hK.1 hPc (ci := 8) (q0 := 0) rfl rfl, z_prer hK hPc⟩ rfl rfl hl.1 rfl (lv_room (Nat.le_of_ble_eq_true rfl)) dL_holds_43 ⟨Nat.le_of_ble_eq_true rfl, Nat.le_of_ble_eq_true rfl⟩) ?_
    refine W.eq (g2 := F0 Mi 46 ls [.int (m_std (g 0) - m_std (g 1))]) rfl ?_
    refine lv_aload_n hx hb dL_holds_46 rfl (lv_at hl 4 rfl) ?_
    refine lv_aload_n hx hb dL_holds_47 rfl (lv_at hl 4 rfl) ?_
    have hPc : va_P E.1 vwCl ([(z_W E xa na ma mb ad tx ln nx ct f0 f1 g ga gb v).flatten] : List va_W).flatten H := zf_sub hP [0] rfl
    refine z_rdv (va_runV (As := []) (rest := [.ref (xa 0), .int (m_std (g 0) - m_std (g 1))]) ⟨hx, hb, hml, hown, hts⟩ (c_X9_pressure l E xa na ma mb ad tx ln nx ct f0 f1 g ga gb v hw) (cwV 0 hts gL_holds_X9_pressure rfl rfl rfl (by decide +kernel) ⟨Nat.le_of_ble_eq_true rfl, Nat.le_of_ble_eq_true rfl⟩) ⟨zPr.blind, va_recv hK.1 hPc (ci := 8) (q0 := 0) rfl rfl, z_prer hK hPc⟩ rfl rfl hl.1 rfl (lv_room (Nat.le_of_ble_eq_true rfl)) dL_holds_48 ⟨Nat.le_of_ble_eq_true rfl, Nat.le_of_ble_eq_true rfl⟩) ?_
    refine W.eq (g2 := F0 Mi 51 ls [.int (g 0), .ref (xa 0), .int (m_std (g 0) - m_std (g 1))]) rfl ?_
    have ph_51 : 5000 ≤ (g 0) ∧ (g 0) ≤ 11000 := h_p hg
    have hPc : va_P E.1 vwCl ([(z_W E xa na ma mb ad tx ln nx ct f0 f1 g ga gb v).flatten] : List va_W).flatten H := zf_sub hP [0] rfl
    have hDc : va_D A ([(z_W E xa na ma mb ad tx ln nx ct f0 f1 g ga gb v).flatten] : List va_W).flatten := zf_subD hD [0] (by decide) rfl
    refine z_xmut (Sc := [(z_W E xa na ma mb ad tx ln nx ct f0 f1 g ga gb v).flatten]) (Sr := []) (W1 := [(z_W E xa na ma mb ad tx ln nx ct f0 f1 g ga gb v).flatten]) (vx_runV (As := [.int (g 0)]) (rest := [.int (m_std (g 0) - m_std (g 1))]) ⟨hx, hb, hml, hown, hts⟩ (c_X9_standard l E sa hl0 xa na ma mb ad tx ln nx ct f0 f1 g ga gb v hw (g 0) H.size) (cwV 1 hts gL_holds_X9_standard rfl rfl rfl (by decide +kernel) ⟨Nat.le_of_ble_eq_true rfl, Nat.le_of_ble_eq_true rfl⟩) ⟨zPE.blind, va_recv hK.1 hPc (ci := 8) (q0 := 0) rfl rfl, z_preE hK hT hZ hS (zf_free hD hS hA [0] rfl) hPc hDc⟩ rfl rfl hl.1 rfl (lv_room (Nat.le_of_ble_eq_true rfl)) dL_holds_51 ⟨Nat.le_of_ble_eq_true rfl, Nat.le_of_ble_eq_true rfl⟩) hP hD hS hA [0] [] rfl rfl (by decide) (by decide) (fun Ex ce q9 H locs hps hP hD hS hce hcv hcl => ?_) (fun H locs _ hP hD hS => ?_)
    · exact (absurd ph_51 hps.2)
    have hP : va_P E.1 vwCl ([(z_W E xa na ma mb ad tx ln nx ct f0 f1 g ga gb v).flatten] : List va_W).flatten H := hP
    have hD : va_D A ([(z_W E xa na ma mb ad tx ln nx ct f0 f1 g ga gb v).flatten] : List va_W).flatten := hD
    refine W.widen (k := 3) (n := 18) (by decide) (by decide) ?_
    refine W.eq (g2 := F0 Mi 54 ls [.int (m_std (g 0)), .int (m_std (g 0) - m_std (g 1))]) rfl ?_
    refine lv_iload hx hb dL_holds_54 (lv_at hl 0 rfl) ?_
    refine lv_isub hx hb dL_holds_56 ?_
    refine lv_icmp_ne (tgt := 119) hx hb dL_holds_57 (by decide) (fun h9 => absurd (rfl) h9) (fun _ => ?_)
    refine lv_aload_n hx hb dL_holds_60 rfl (lv_at hl 4 rfl) ?_
    refine lv_iload_n hx hb dL_holds_61 rfl (lv_at hl 3 rfl) ?_
    have ph_62 : 5000 ≤ (nI (5000 + jp)) ∧ (nI (5000 + jp)) ≤ 11000 := h_p5 (by omega)
    have hPc : va_P E.1 vwCl ([(z_W E xa na ma mb ad tx ln nx ct f0 f1 g ga gb v).flatten] : List va_W).flatten H := zf_sub hP [0] rfl
    have hDc : va_D A ([(z_W E xa na ma mb ad tx ln nx ct f0 f1 g ga gb v).flatten] : List va_W).flatten := zf_subD hD [0] (by decide) rfl
    refine z_xmut (Sc := [(z_W E xa na ma mb ad tx ln nx ct f0 f1 g ga gb v).flatten]) (Sr := []) (W1 := [(z_W E xa na ma mb ad tx ln nx ct f0 f1 g ga gb v).flatten]) (vx_runV (As := [.int (nI (5000 + jp))]) (rest := []) ⟨hx, hb, hml, hown, hts⟩ (c_X9_standard l E sa hl0 xa na ma mb ad tx ln nx ct f0 f1 g ga gb v hw (nI (5000 + jp)) H.size) (cwV 1 hts gL_holds_X9_standard rfl rfl rfl (by decide +kernel) ⟨Nat.le_of_ble_eq_true rfl, Nat.le_of_ble_eq_true rfl⟩) ⟨zPE.blind, va_recv hK.1 hPc (ci := 8) (q0 := 0) rfl rfl, z_preE hK hT hZ hS (zf_free hD hS hA [0] rfl) hPc hDc⟩ rfl rfl hl.1 rfl (lv_room (Nat.le_of_ble_eq_true rfl)) dL_holds_62 ⟨Nat.le_of_ble_eq_true rfl, Nat.le_of_ble_eq_true rfl⟩) hP hD hS hA [0] [] rfl rfl (by decide) (by decide) (fun Ex ce q9 H locs hps hP hD hS hce hcv hcl => ?_) (fun H locs _ hP hD hS => ?_)
    · exact (absurd ph_62 hps.2)
    have hP : va_P E.1 vwCl ([(z_W E xa na ma mb ad tx ln nx ct f0 f1 g ga gb v).flatten] : List va_W).flatten H := hP
    have hD : va_D A ([(z_W E xa na ma mb ad tx ln nx ct f0 f1 g ga gb v).flatten] : List va_W).flatten := hD
    refine W.widen (k := 4) (n := 24) (by decide) (by decide) ?_
    refine W.eq (g2 := F0 Mi 65 ls [.int (m_std (nI (5000 + jp)))]) rfl ?_
    refine lv_aload_n hx hb dL_holds_65 rfl (lv_at hl 4 rfl) ?_
    refine lv_iload_n hx hb dL_holds_66 rfl (lv_at hl 3 rfl) ?_
    refine lv_iconst (v := 1) hx hb dL_holds_67 (by decide) ?_
    refine lv_iadd hx hb dL_holds_68 ?_
    have ph_69 : 5000 ≤ ((nI (5000 + jp)) + 1) ∧ ((nI (5000 + jp)) + 1) ≤ 11000 := h_p6 hjp
    have hPc : va_P E.1 vwCl ([(z_W E xa na ma mb ad tx ln nx ct f0 f1 g ga gb v).flatten] : List va_W).flatten H := zf_sub hP [0] rfl
    have hDc : va_D A ([(z_W E xa na ma mb ad tx ln nx ct f0 f1 g ga gb v).flatten] : List va_W).flatten := zf_subD hD [0] (by decide) rfl
    refine z_xmut (Sc := [(z_W E xa na ma mb ad tx ln nx ct f0 f1 g ga gb v).flatten]) (Sr := []) (W1 := [(z_W E xa na ma mb ad tx ln nx ct f0 f1 g ga gb v).flatten]) (vx_runV (As := [.int ((nI (5000 + jp)) + 1)]) (rest := [.int (m_std (nI (5000 + jp)))]) ⟨hx, hb, hml, hown, hts⟩ (c_X9_standard l E sa hl0 xa na ma mb ad tx ln nx ct f0 f1 g ga gb v hw ((nI (5000 + jp)) + 1) H.size) (cwV 1 hts gL_holds_X9_standard rfl rfl rfl (by decide +kernel) ⟨Nat.le_of_ble_eq_true rfl, Nat.le_of_ble_eq_true rfl⟩) ⟨zPE.blind, va_recv hK.1 hPc (ci := 8) (q0 := 0) rfl rfl, z_preE hK hT hZ hS (zf_free hD hS hA [0] rfl) hPc hDc⟩ rfl rfl hl.1 rfl (lv_room (Nat.le_of_ble_eq_true rfl)) dL_holds_69 ⟨Nat.le_of_ble_eq_true rfl, Nat.le_of_ble_eq_true rfl⟩) hP hD hS hA [0] [] rfl rfl (by decide) (by decide) (fun Ex ce q9 H locs hps hP hD hS hce hcv hcl => ?_) (fun H locs _ hP hD hS => ?_)
    · exact (absurd ph_69 hps.2)
    have hP : va_P E.1 vwCl ([(z_W E xa na ma mb ad tx ln nx ct f0 f1 g ga gb v).flatten] : List va_W).flatten H := hP
    have hD : va_D A ([(z_W E xa na ma mb ad tx ln nx ct f0 f1 g ga gb v).flatten] : List va_W).flatten := hD
    refine W.widen (k := 5) (n := 30) (by decide) (by decide) ?_
    refine W.eq (g2 := F0 Mi 72 ls [.int (m_std ((nI (5000 + jp)) + 1)), .int (m_std (nI (5000 + jp)))]) rfl ?_
    refine lv_icmp_lt (tgt := 119) hx hb dL_holds_72 (by decide) (fun h9 => absurd h9 (h_mono hjp)) (fun _ => ?_)
    refine lv_aload_n hx hb dL_holds_75 rfl (lv_at hl 4 rfl) ?_
    have hPc : va_P E.1 vwCl ([(z_W E xa na ma mb ad tx ln nx ct f0 f1 g ga gb v).flatten] : List va_W).flatten H := zf_sub hP [0] rfl
    refine z_rdv (va_runV (As := []) (rest := []) ⟨hx, hb, hml, hown, hts⟩ (c_X9_sea l E xa na ma mb ad tx ln nx ct f0 f1 g ga gb v hw) (cwV 0 hts gL_holds_X9_sea rfl rfl rfl (by decide +kernel) ⟨Nat.le_of_ble_eq_true rfl, Nat.le_of_ble_eq_true rfl⟩) ⟨zPr.blind, va_recv hK.1 hPc (ci := 8) (q0 := 0) rfl rfl, z_prer hK hPc⟩ rfl rfl hl.1 rfl (lv_room (Nat.le_of_ble_eq_true rfl)) dL_holds_76 ⟨Nat.le_of_ble_eq_true rfl, Nat.le_of_ble_eq_true rfl⟩) ?_
    refine W.eq (g2 := F0 Mi 79 ls [.int (g 1)]) rfl ?_
    refine lv_sipush (v := 9000) hx hb dL_holds_79 (by decide) ?_
    refine lv_icmp_lt (tgt := 119) hx hb dL_holds_82 (by decide) (fun h9 => absurd h9 (Int32.not_lt.mpr (h_s hg).1)) (fun _ => ?_)
    refine lv_aload_n hx hb dL_holds_85 rfl (lv_at hl 4 rfl) ?_
    have hPc : va_P E.1 vwCl ([(z_W E xa na ma mb ad tx ln nx ct f0 f1 g ga gb v).flatten] : List va_W).flatten H := zf_sub hP [0] rfl
    refine z_rdv (va_runV (As := []) (rest := []) ⟨hx, hb, hml, hown, hts⟩ (c_X9_sea l E xa na ma mb ad tx ln nx ct f0 f1 g ga gb v hw) (cwV 0 hts gL_holds_X9_sea rfl rfl rfl (by decide +kernel) ⟨Nat.le_of_ble_eq_true rfl, Nat.le_of_ble_eq_true rfl⟩) ⟨zPr.blind, va_recv hK.1 hPc (ci := 8) (q0 := 0) rfl rfl, z_prer hK hPc⟩ rfl rfl hl.1 rfl (lv_room (Nat.le_of_ble_eq_true rfl)) dL_holds_86 ⟨Nat.le_of_ble_eq_true rfl, Nat.le_of_ble_eq_true rfl⟩) ?_
    refine W.eq (g2 := F0 Mi 89 ls [.int (g 1)]) rfl ?_
    refine lv_sipush (v := 10800) hx hb dL_holds_89 (by decide) ?_
    refine lv_icmp_gt (tgt := 119) hx hb dL_holds_92 (by decide) (fun h9 => absurd h9 (Int32.not_lt.mpr (h_s hg).2)) (fun _ => ?_)
    refine lv_aload_n hx hb dL_holds_95 rfl (lv_at hl 4 rfl) ?_
    have hPc : va_P E.1 vwCl ([(z_W E xa na ma mb ad tx ln nx ct f0 f1 g ga gb v).flatten] : List va_W).flatten H := zf_sub hP [0] rfl
    refine z_rdv (va_runV (As := []) (rest := []) ⟨hx, hb, hml, hown, hts⟩ (c_X9_pressure l E xa na ma mb ad tx ln nx ct f0 f1 g ga gb v hw) (cwV 0 hts gL_holds_X9_pressure rfl rfl rfl (by decide +kernel) ⟨Nat.le_of_ble_eq_true rfl, Nat.le_of_ble_eq_true rfl⟩) ⟨zPr.blind, va_recv hK.1 hPc (ci := 8) (q0 := 0) rfl rfl, z_prer hK hPc⟩ rfl rfl hl.1 rfl (lv_room (Nat.le_of_ble_eq_true rfl)) dL_holds_96 ⟨Nat.le_of_ble_eq_true rfl, Nat.le_of_ble_eq_true rfl⟩) ?_
    refine W.eq (g2 := F0 Mi 99 ls [.int (g 0)]) rfl ?_
    refine lv_sipush (v := 5000) hx hb dL_holds_99 (by decide) ?_
    refine lv_icmp_lt (tgt := 119) hx hb dL_holds_102 (by decide) (fun h9 => absurd h9 (Int32.not_lt.mpr (h_p hg).1)) (fun _ => ?_)
    refine lv_aload_n hx hb dL_holds_105 rfl (lv_at hl 4 rfl) ?_
    have hPc : va_P E.1 vwCl ([(z_W E xa na ma mb ad tx ln nx ct f0 f1 g ga gb v).flatten] : List va_W).flatten H := zf_sub hP [0] rfl
    refine z_rdv (va_runV (As := []) (rest := []) ⟨hx, hb, hml, hown, hts⟩ (c_X9_pressure l E xa na ma mb ad tx ln nx ct f0 f1 g ga gb v hw) (cwV 0 hts gL_holds_X9_pressure rfl rfl rfl (by decide +kernel) ⟨Nat.le_of_ble_eq_true rfl, Nat.le_of_ble_eq_true rfl⟩) ⟨zPr.blind, va_recv hK.1 hPc (ci := 8) (q0 := 0) rfl rfl, z_prer hK hPc⟩ rfl rfl hl.1 rfl (lv_room (Nat.le_of_ble_eq_true rfl)) dL_holds_106 ⟨Nat.le_of_ble_eq_true rfl, Nat.le_of_ble_eq_true rfl⟩) ?_
    refine W.eq (g2 := F0 Mi 109 ls [.int (g 0)]) rfl ?_
    refine lv_sipush (v := 11000) hx hb dL_holds_109 (by decide) ?_
    refine lv_icmp_gt (tgt := 119) hx hb dL_holds_112 (by decide) (fun h9 => absurd h9 (Int32.not_lt.mpr (h_p hg).2)) (fun _ => ?_)
    refine lv_iconst (v := 1) hx hb dL_holds_115 (by decide) ?_
    refine lv_goto (tgt := 120) hx hb dL_holds_116 (by decide) ?_
    refine lv_istore (lv' := [(6, .int 1), (5, .int (m_std (g 1))), (4, .int (-1)), (3, .int ((nI jh) - 4000)), (2, .int (nI (5000 + jp))), (0, .ref (xa 0)), (1, .int x)]) hx hb dL_holds_120 hl (by decide) rfl (fun ls hl => ?_)
    refine lv_iload hx hb dL_holds_122 (lv_at hl 0 rfl) ?_
    refine lv_if_eq (tgt := 190) hx hb dL_holds_124 (by decide) (fun h9 => absurd h9 ((by decide))) (fun _ => ?_)
    refine lv_iload hx hb dL_holds_127 (lv_at hl 2 rfl) ?_
    refine lv_iconst (v := (-1)) hx hb dL_holds_129 (by decide) ?_
    refine lv_icmp_ne (tgt := 150) hx hb dL_holds_130 (by decide) (fun h9 => absurd ((by decide)) h9) (fun _ => ?_)
    refine lv_aload_n hx hb dL_holds_133 rfl (lv_at hl 5 rfl) ?_
    refine lv_sipush (v := 5000) hx hb dL_holds_134 (by decide) ?_
    have ph_137 : 5000 ≤ (5000 : Int32) ∧ (5000 : Int32) ≤ 11000 := ⟨by decide, by decide⟩
    have hPc : va_P E.1 vwCl ([(z_W E xa na ma mb ad tx ln nx ct f0 f1 g ga gb v).flatten] : List va_W).flatten H := zf_sub hP [0] rfl
    have hDc : va_D A ([(z_W E xa na ma mb ad tx ln nx ct f0 f1 g ga gb v).flatten] : List va_W).flatten := zf_subD hD [0] (by decide) rfl
    refine z_xmut (Sc := [(z_W E xa na ma mb ad tx ln nx ct f0 f1 g ga gb v).flatten]) (Sr := []) (W1 := [(z_W E xa na ma mb ad tx ln nx ct f0 f1 g ga gb v).flatten]) (vx_runV (As := [.int 5000]) (rest := []) ⟨hx, hb, hml, hown, hts⟩ (c_X9_standard l E sa hl0 xa na ma mb ad tx ln nx ct f0 f1 g ga gb v hw 5000 H.size) (cwV 1 hts gL_holds_X9_standard rfl rfl rfl (by decide +kernel) ⟨Nat.le_of_ble_eq_true rfl, Nat.le_of_ble_eq_true rfl⟩) ⟨zPE.blind, va_recv hK.1 hPc (ci := 8) (q0 := 0) rfl rfl, z_preE hK hT hZ hS (zf_free hD hS hA [0] rfl) hPc hDc⟩ rfl rfl hl.1 rfl (lv_room (Nat.le_of_ble_eq_true rfl)) dL_holds_137 ⟨Nat.le_of_ble_eq_true rfl, Nat.le_of_ble_eq_true rfl⟩) hP hD hS hA [0] [] rfl rfl (by decide) (by decide) (fun Ex ce q9 H locs hps hP hD hS hce hcv hcl => ?_) (fun H locs _ hP hD hS => ?_)
    · exact (absurd ph_137 hps.2)
    have hP : va_P E.1 vwCl ([(z_W E xa na ma mb ad tx ln nx ct f0 f1 g ga gb v).flatten] : List va_W).flatten H := hP
    have hD : va_D A ([(z_W E xa na ma mb ad tx ln nx ct f0 f1 g ga gb v).flatten] : List va_W).flatten := hD
    refine W.widen (k := 6) (n := 36) (by decide) (by decide) ?_
    refine W.eq (g2 := F0 Mi 140 ls [.int (m_std (5000 : Int32))]) rfl ?_
    refine lv_iload hx hb dL_holds_140 (lv_at hl 1 rfl) ?_
    refine lv_isub hx hb dL_holds_142 ?_
    refine lv_iload_n hx hb dL_holds_143 rfl (lv_at hl 3 rfl) ?_
    refine lv_icmp_ge (tgt := 190) hx hb dL_holds_144 (by decide) (fun h9 => absurd h9 (Int32.not_le.mpr hm1)) (fun _ => ?_)
    refine lv_goto (tgt := 186) hx hb dL_holds_147 (by decide) ?_
    refine W.widen (k := 7) (n := 42) (by decide) (by decide) ?_
    exact LOOP_186 1 (by decide) _ _ (zf_sub hP [0] rfl) (zf_subD hD [0] (by decide) rfl) hS ls (lv_sub hl [5] rfl)
  · refine lv_sipush (v := 5000) hx hb dL_holds_0 (by decide) ?_
    refine lv_iload_n hx hb dL_holds_3 rfl (lv_at hl 1 rfl) ?_
    refine lv_sipush (v := 6000) hx hb dL_holds_4 (by decide) ?_
    refine z_rdv (va_runS (As := [.int x, .int 6000]) (rest := [.int 5000]) ⟨hx, hb, hml, hown, hts⟩ (c_L_up l E x 6000 (by decide)) (va_cwS 2 hts gL_holds_L_up rfl rfl rfl (by decide +kernel) ⟨Nat.le_of_ble_eq_true rfl, Nat.le_of_ble_eq_true rfl⟩) ⟨zPr.blind, z_prer hK zP_nil⟩ rfl rfl hl.1 rfl (lv_room (Nat.le_of_ble_eq_true rfl)) dL_holds_7 ⟨Nat.le_of_ble_eq_true rfl, Nat.le_of_ble_eq_true rfl⟩) ?_
    refine W.eq (g2 := F0 Mi 10 ls [.int (a_up x 6000), .int 5000]) rfl ?_
    refine z_topi (y := nI jp) ejp ?_
    refine lv_iadd hx hb dL_holds_10 ?_
    refine z_topi (y := nI (5000 + jp)) (nI_add 5000 jp) ?_
    refine lv_istore_n (lv' := [(2, .int (nI (5000 + jp))), (0, .ref (xa 0)), (1, .int x)]) hx hb dL_holds_11 rfl hl (by decide) rfl (fun ls hl => ?_)
    refine lv_iload_n hx hb dL_holds_12 rfl (lv_at hl 2 rfl) ?_
    refine lv_iconst (v := 3) hx hb dL_holds_13 (by decide) ?_
    refine lv_ishr hx hb dL_holds_14 ?_
    refine lv_ldc hx hb hown (hts (.constant RL 106 (40001)) (by decide +kernel)) dL_holds_15 ?_
    refine z_rdv (va_runS (As := [.int (x >>> (3 &&& 31)), .int (40001)]) (rest := []) ⟨hx, hb, hml, hown, hts⟩ (c_L_up l E (x >>> (3 &&& 31)) (40001) (by decide)) (va_cwS 2 hts gL_holds_L_up rfl rfl rfl (by decide +kernel) ⟨Nat.le_of_ble_eq_true rfl, Nat.le_of_ble_eq_true rfl⟩) ⟨zPr.blind, z_prer hK zP_nil⟩ rfl rfl hl.1 rfl (lv_room (Nat.le_of_ble_eq_true rfl)) dL_holds_17 ⟨Nat.le_of_ble_eq_true rfl, Nat.le_of_ble_eq_true rfl⟩) ?_
    refine W.eq (g2 := F0 Mi 20 ls [.int (a_up (x >>> (3 &&& 31)) (40001))]) rfl ?_
    refine z_topi (y := nI jh) ejh ?_
    refine lv_sipush (v := 4000) hx hb dL_holds_20 (by decide) ?_
    refine lv_isub hx hb dL_holds_23 ?_
    refine lv_istore_n (lv' := [(3, .int ((nI jh) - 4000)), (2, .int (nI (5000 + jp))), (0, .ref (xa 0)), (1, .int x)]) hx hb dL_holds_24 rfl hl (by decide) rfl (fun ls hl => ?_)
    refine lv_aload_n hx hb dL_holds_25 rfl (lv_at hl 2 rfl) ?_
    refine lv_iload_n hx hb dL_holds_26 rfl (lv_at hl 0 rfl) ?_
    have ph_27 : -5000 ≤ ((nI jh) - 4000) ∧ ((nI jh) - 4000) ≤ 50000 := h_hr (by omega)
    have hPc : va_P E.1 vwCl ([(z_W E xa na ma mb ad tx ln nx ct f0 f1 g ga gb v).flatten] : List va_W).flatten H := zf_sub hP [0] rfl
    have hDc : va_D A ([(z_W E xa na ma mb ad tx ln nx ct f0 f1 g ga gb v).flatten] : List va_W).flatten := zf_subD hD [0] (by decide) rfl
    refine z_xmut (Sc := [(z_W E xa na ma mb ad tx ln nx ct f0 f1 g ga gb v).flatten]) (Sr := []) (W1 := [(z_W E xa na ma mb ad tx ln nx ct f0 f1 g ga gb v).flatten]) (vx_runV (As := [.int ((nI jh) - 4000)]) (rest := []) ⟨hx, hb, hml, hown, hts⟩ (c_X9_pressureAt l E sa hl0 xa na ma mb ad tx ln nx ct f0 f1 g ga gb v hw ((nI jh) - 4000) H.size) (cwV 1 hts gL_holds_X9_pressureAt rfl rfl rfl (by decide +kernel) ⟨Nat.le_of_ble_eq_true rfl, Nat.le_of_ble_eq_true rfl⟩) ⟨zPE.blind, va_recv hK.1 hPc (ci := 8) (q0 := 0) rfl rfl, z_preE hK hT hZ hS (zf_free hD hS hA [0] rfl) hPc hDc⟩ rfl rfl hl.1 rfl (lv_room (Nat.le_of_ble_eq_true rfl)) dL_holds_27 ⟨Nat.le_of_ble_eq_true rfl, Nat.le_of_ble_eq_true rfl⟩) hP hD hS hA [0] [] rfl rfl (by decide) (by decide) (fun Ex ce q9 H locs hps hP hD hS hce hcv hcl => ?_) (fun H locs _ hP hD hS => ?_)
    · exact (absurd ph_27 hps.2)
    have hP : va_P E.1 vwCl ([(z_W E xa na ma mb ad tx ln nx ct f0 f1 g ga gb v).flatten] : List va_W).flatten H := hP
    have hD : va_D A ([(z_W E xa na ma mb ad tx ln nx ct f0 f1 g ga gb v).flatten] : List va_W).flatten := hD
    refine W.widen (k := 1) (n := 6) (by decide) (by decide) ?_
    refine W.eq (g2 := F0 Mi 30 ls [.int (m_down (((nI jh) - 4000) + m_std (g 1)) 5000 6001)]) rfl ?_
    refine z_topi (y := nI (5000 + q)) em ?_
    refine lv_istore (lv' := [(4, .int (nI (5000 + q))), (3, .int ((nI jh) - 4000)), (2, .int (nI (5000 + jp))), (0, .ref (xa 0)), (1, .int x)]) hx hb dL_holds_30 hl (by decide) rfl (fun ls hl => ?_)
    refine lv_aload_n hx hb dL_holds_32 rfl (lv_at hl 3 rfl) ?_
    refine lv_aload_n hx hb dL_holds_33 rfl (lv_at hl 3 rfl) ?_
    have hPc : va_P E.1 vwCl ([(z_W E xa na ma mb ad tx ln nx ct f0 f1 g ga gb v).flatten] : List va_W).flatten H := zf_sub hP [0] rfl
    refine z_rdv (va_runV (As := []) (rest := [.ref (xa 0)]) ⟨hx, hb, hml, hown, hts⟩ (c_X9_sea l E xa na ma mb ad tx ln nx ct f0 f1 g ga gb v hw) (cwV 0 hts gL_holds_X9_sea rfl rfl rfl (by decide +kernel) ⟨Nat.le_of_ble_eq_true rfl, Nat.le_of_ble_eq_true rfl⟩) ⟨zPr.blind, va_recv hK.1 hPc (ci := 8) (q0 := 0) rfl rfl, z_prer hK hPc⟩ rfl rfl hl.1 rfl (lv_room (Nat.le_of_ble_eq_true rfl)) dL_holds_34 ⟨Nat.le_of_ble_eq_true rfl, Nat.le_of_ble_eq_true rfl⟩) ?_
    refine W.eq (g2 := F0 Mi 37 ls [.int (g 1), .ref (xa 0)]) rfl ?_
    have ph_37 : 5000 ≤ (g 1) ∧ (g 1) ≤ 11000 := h_s5 hg
    have hPc : va_P E.1 vwCl ([(z_W E xa na ma mb ad tx ln nx ct f0 f1 g ga gb v).flatten] : List va_W).flatten H := zf_sub hP [0] rfl
    have hDc : va_D A ([(z_W E xa na ma mb ad tx ln nx ct f0 f1 g ga gb v).flatten] : List va_W).flatten := zf_subD hD [0] (by decide) rfl
    refine z_xmut (Sc := [(z_W E xa na ma mb ad tx ln nx ct f0 f1 g ga gb v).flatten]) (Sr := []) (W1 := [(z_W E xa na ma mb ad tx ln nx ct f0 f1 g ga gb v).flatten]) (vx_runV (As := [.int (g 1)]) (rest := []) ⟨hx, hb, hml, hown, hts⟩ (c_X9_standard l E sa hl0 xa na ma mb ad tx ln nx ct f0 f1 g ga gb v hw (g 1) H.size) (cwV 1 hts gL_holds_X9_standard rfl rfl rfl (by decide +kernel) ⟨Nat.le_of_ble_eq_true rfl, Nat.le_of_ble_eq_true rfl⟩) ⟨zPE.blind, va_recv hK.1 hPc (ci := 8) (q0 := 0) rfl rfl, z_preE hK hT hZ hS (zf_free hD hS hA [0] rfl) hPc hDc⟩ rfl rfl hl.1 rfl (lv_room (Nat.le_of_ble_eq_true rfl)) dL_holds_37 ⟨Nat.le_of_ble_eq_true rfl, Nat.le_of_ble_eq_true rfl⟩) hP hD hS hA [0] [] rfl rfl (by decide) (by decide) (fun Ex ce q9 H locs hps hP hD hS hce hcv hcl => ?_) (fun H locs _ hP hD hS => ?_)
    · exact (absurd ph_37 hps.2)
    have hP : va_P E.1 vwCl ([(z_W E xa na ma mb ad tx ln nx ct f0 f1 g ga gb v).flatten] : List va_W).flatten H := hP
    have hD : va_D A ([(z_W E xa na ma mb ad tx ln nx ct f0 f1 g ga gb v).flatten] : List va_W).flatten := hD
    refine W.widen (k := 2) (n := 12) (by decide) (by decide) ?_
    refine W.eq (g2 := F0 Mi 40 ls [.int (m_std (g 1))]) rfl ?_
    refine lv_istore (lv' := [(5, .int (m_std (g 1))), (4, .int (nI (5000 + q))), (3, .int ((nI jh) - 4000)), (2, .int (nI (5000 + jp))), (0, .ref (xa 0)), (1, .int x)]) hx hb dL_holds_40 hl (by decide) rfl (fun ls hl => ?_)
    refine lv_aload_n hx hb dL_holds_42 rfl (lv_at hl 4 rfl) ?_
    have hPc : va_P E.1 vwCl ([(z_W E xa na ma mb ad tx ln nx ct f0 f1 g ga gb v).flatten] : List va_W).flatten H := zf_sub hP [0] rfl
    refine z_rdv (va_runV (As := []) (rest := []) ⟨hx, hb, hml, hown, hts⟩ (c_X9_altitude l E xa na ma mb ad tx ln nx ct f0 f1 g ga gb v hw) (cwV 0 hts gL_holds_X9_altitude rfl rfl rfl (by decide +kernel) ⟨Nat.le_of_ble_eq_true rfl, Nat.le_of_ble_eq_true rfl⟩) ⟨zPr.blind, va_recv hK.1 hPc (ci := 8) (q0 := 0) rfl rfl, z_prer hK hPc⟩ rfl rfl hl.1 rfl (lv_room (Nat.le_of_ble_eq_true rfl)) dL_holds_43 ⟨Nat.le_of_ble_eq_true rfl, Nat.le_of_ble_eq_true rfl⟩) ?_
    refine W.eq (g2 := F0 Mi 46 ls [.int (m_std (g 0) - m_std (g 1))]) rfl ?_
    refine lv_aload_n hx hb dL_holds_46 rfl (lv_at hl 4 rfl) ?_
    refine lv_aload_n hx hb dL_holds_47 rfl (lv_at hl 4 rfl) ?_
    have hPc : va_P E.1 vwCl ([(z_W E xa na ma mb ad tx ln nx ct f0 f1 g ga gb v).flatten] : List va_W).flatten H := zf_sub hP [0] rfl
    refine z_rdv (va_runV (As := []) (rest := [.ref (xa 0), .int (m_std (g 0) - m_std (g 1))]) ⟨hx, hb, hml, hown, hts⟩ (c_X9_pressure l E xa na ma mb ad tx ln nx ct f0 f1 g ga gb v hw) (cwV 0 hts gL_holds_X9_pressure rfl rfl rfl (by decide +kernel) ⟨Nat.le_of_ble_eq_true rfl, Nat.le_of_ble_eq_true rfl⟩) ⟨zPr.blind, va_recv hK.1 hPc (ci := 8) (q0 := 0) rfl rfl, z_prer hK hPc⟩ rfl rfl hl.1 rfl (lv_room (Nat.le_of_ble_eq_true rfl)) dL_holds_48 ⟨Nat.le_of_ble_eq_true rfl, Nat.le_of_ble_eq_true rfl⟩) ?_
    refine W.eq (g2 := F0 Mi 51 ls [.int (g 0), .ref (xa 0), .int (m_std (g 0) - m_std (g 1))]) rfl ?_
    have ph_51 : 5000 ≤ (g 0) ∧ (g 0) ≤ 11000 := h_p hg
    have hPc : va_P E.1 vwCl ([(z_W E xa na ma mb ad tx ln nx ct f0 f1 g ga gb v).flatten] : List va_W).flatten H := zf_sub hP [0] rfl
    have hDc : va_D A ([(z_W E xa na ma mb ad tx ln nx ct f0 f1 g ga gb v).flatten] : List va_W).flatten := zf_subD hD [0] (by decide) rfl
    refine z_xmut (Sc := [(z_W E xa na ma mb ad tx ln nx ct f0 f1 g ga gb v).flatten]) (Sr := []) (W1 := [(z_W E xa na ma mb ad tx ln nx ct f0 f1 g ga gb v).flatten]) (vx_runV (As := [.int (g 0)]) (rest := [.int (m_std (g 0) - m_std (g 1))]) ⟨hx, hb, hml, hown, hts⟩ (c_X9_standard l E sa hl0 xa na ma mb ad tx ln nx ct f0 f1 g ga gb v hw (g 0) H.size) (cwV 1 hts gL_holds_X9_standard rfl rfl rfl (by decide +kernel) ⟨Nat.le_of_ble_eq_true rfl, Nat.le_of_ble_eq_true rfl⟩) ⟨zPE.blind, va_recv hK.1 hPc (ci := 8) (q0 := 0) rfl rfl, z_preE hK hT hZ hS (zf_free hD hS hA [0] rfl) hPc hDc⟩ rfl rfl hl.1 rfl (lv_room (Nat.le_of_ble_eq_true rfl)) dL_holds_51 ⟨Nat.le_of_ble_eq_true rfl, Nat.le_of_ble_eq_true rfl⟩) hP hD hS hA [0] [] rfl rfl (by decide) (by decide) (fun Ex ce q9 H locs hps hP hD hS hce hcv hcl => ?_) (fun H locs _ hP hD hS => ?_)
    · exact (absurd ph_51 hps.2)
    have hP : va_P E.1 vwCl ([(z_W E xa na ma mb ad tx ln nx ct f0 f1 g ga gb v).flatten] : List va_W).flatten H := hP
    have hD : va_D A ([(z_W E xa na ma mb ad tx ln nx ct f0 f1 g ga gb v).flatten] : List va_W).flatten := hD
    refine W.widen (k := 3) (n := 18) (by decide) (by decide) ?_
    refine W.eq (g2 := F0 Mi 54 ls [.int (m_std (g 0)), .int (m_std (g 0) - m_std (g 1))]) rfl ?_
    refine lv_iload hx hb dL_holds_54 (lv_at hl 0 rfl) ?_
    refine lv_isub hx hb dL_holds_56 ?_
    refine lv_icmp_ne (tgt := 119) hx hb dL_holds_57 (by decide) (fun h9 => absurd (rfl) h9) (fun _ => ?_)
    refine lv_aload_n hx hb dL_holds_60 rfl (lv_at hl 4 rfl) ?_
    refine lv_iload_n hx hb dL_holds_61 rfl (lv_at hl 3 rfl) ?_
    have ph_62 : 5000 ≤ (nI (5000 + jp)) ∧ (nI (5000 + jp)) ≤ 11000 := h_p5 (by omega)
    have hPc : va_P E.1 vwCl ([(z_W E xa na ma mb ad tx ln nx ct f0 f1 g ga gb v).flatten] : List va_W).flatten H := zf_sub hP [0] rfl
    have hDc : va_D A ([(z_W E xa na ma mb ad tx ln nx ct f0 f1 g ga gb v).flatten] : List va_W).flatten := zf_subD hD [0] (by decide) rfl
    refine z_xmut (Sc := [(z_W E xa na ma mb ad tx ln nx ct f0 f1 g ga gb v).flatten]) (Sr := []) (W1 := [(z_W E xa na ma mb ad tx ln nx ct f0 f1 g ga gb v).flatten]) (vx_runV (As := [.int (nI (5000 + jp))]) (rest := []) ⟨hx, hb, hml, hown, hts⟩ (c_X9_standard l E sa hl0 xa na ma mb ad tx ln nx ct f0 f1 g ga gb v hw (nI (5000 + jp)) H.size) (cwV 1 hts gL_holds_X9_standard rfl rfl rfl (by decide +kernel) ⟨Nat.le_of_ble_eq_true rfl, Nat.le_of_ble_eq_true rfl⟩) ⟨zPE.blind, va_recv hK.1 hPc (ci := 8) (q0 := 0) rfl rfl, z_preE hK hT hZ hS (zf_free hD hS hA [0] rfl) hPc hDc⟩ rfl rfl hl.1 rfl (lv_room (Nat.le_of_ble_eq_true rfl)) dL_holds_62 ⟨Nat.le_of_ble_eq_true rfl, Nat.le_of_ble_eq_true rfl⟩) hP hD hS hA [0] [] rfl rfl (by decide) (by decide) (fun Ex ce q9 H locs hps hP hD hS hce hcv hcl => ?_) (fun H locs _ hP hD hS => ?_)
    · exact (absurd ph_62 hps.2)
    have hP : va_P E.1 vwCl ([(z_W E xa na ma mb ad tx ln nx ct f0 f1 g ga gb v).flatten] : List va_W).flatten H := hP
    have hD : va_D A ([(z_W E xa na ma mb ad tx ln nx ct f0 f1 g ga gb v).flatten] : List va_W).flatten := hD
    refine W.widen (k := 4) (n := 24) (by decide) (by decide) ?_
    refine W.eq (g2 := F0 Mi 65 ls [.int (m_std (nI (5000 + jp)))]) rfl ?_
    refine lv_aload_n hx hb dL_holds_65 rfl (lv_at hl 4 rfl) ?_
    refine lv_iload_n hx hb dL_holds_66 rfl (lv_at hl 3 rfl) ?_
    refine lv_iconst (v := 1) hx hb dL_holds_67 (by decide) ?_
    refine lv_iadd hx hb dL_holds_68 ?_
    have ph_69 : 5000 ≤ ((nI (5000 + jp)) + 1) ∧ ((nI (5000 + jp)) + 1) ≤ 11000 := h_p6 hjp
    have hPc : va_P E.1 vwCl ([(z_W E xa na ma mb ad tx ln nx ct f0 f1 g ga gb v).flatten] : List va_W).flatten H := zf_sub hP [0] rfl
    have hDc : va_D A ([(z_W E xa na ma mb ad tx ln nx ct f0 f1 g ga gb v).flatten] : List va_W).flatten := zf_subD hD [0] (by decide) rfl
    refine z_xmut (Sc := [(z_W E xa na ma mb ad tx ln nx ct f0 f1 g ga gb v).flatten]) (Sr := []) (W1 := [(z_W E xa na ma mb ad tx ln nx ct f0 f1 g ga gb v).flatten]) (vx_runV (As := [.int ((nI (5000 + jp)) + 1)]) (rest := [.int (m_std (nI (5000 + jp)))]) ⟨hx, hb, hml, hown, hts⟩ (c_X9_standard l E sa hl0 xa na ma mb ad tx ln nx ct f0 f1 g ga gb v hw ((nI (5000 + jp)) + 1) H.size) (cwV 1 hts gL_holds_X9_standard rfl rfl rfl (by decide +kernel) ⟨Nat.le_of_ble_eq_true rfl, Nat.le_of_ble_eq_true rfl⟩) ⟨zPE.blind, va_recv hK.1 hPc (ci := 8) (q0 := 0) rfl rfl, z_preE hK hT hZ hS (zf_free hD hS hA [0] rfl) hPc hDc⟩ rfl rfl hl.1 rfl (lv_room (Nat.le_of_ble_eq_true rfl)) dL_holds_69 ⟨Nat.le_of_ble_eq_true rfl, Nat.le_of_ble_eq_true rfl⟩) hP hD hS hA [0] [] rfl rfl (by decide) (by decide) (fun Ex ce q9 H locs hps hP hD hS hce hcv hcl => ?_) (fun H locs _ hP hD hS => ?_)
    · exact (absurd ph_69 hps.2)
    have hP : va_P E.1 vwCl ([(z_W E xa na ma mb ad tx ln nx ct f0 f1 g ga gb v).flatten] : List va_W).flatten H := hP
    have hD : va_D A ([(z_W E xa na ma mb ad tx ln nx ct f0 f1 g ga gb v).flatten] : List va_W).flatten := hD
    refine W.widen (k := 5) (n := 30) (by decide) (by decide) ?_
    refine W.eq (g2 := F0 Mi 72 ls [.int (m_std ((nI (5000 + jp)) + 1)), .int (m_std (nI (5000 + jp)))]) rfl ?_
    refine lv_icmp_lt (tgt := 119) hx hb dL_holds_72 (by decide) (fun h9 => absurd h9 (h_mono hjp)) (fun _ => ?_)
    refine lv_aload_n hx hb dL_holds_75 rfl (lv_at hl 4 rfl) ?_
    have hPc : va_P E.1 vwCl ([(z_W E xa na ma mb ad tx ln nx ct f0 f1 g ga gb v).flatten] : List va_W).flatten H := zf_sub hP [0] rfl
    refine z_rdv (va_runV (As := []) (rest := []) ⟨hx, hb, hml, hown, hts⟩ (c_X9_sea l E xa na ma mb ad tx ln nx ct f0 f1 g ga gb v hw) (cwV 0 hts gL_holds_X9_sea rfl rfl rfl (by decide +kernel) ⟨Nat.le_of_ble_eq_true rfl, Nat.le_of_ble_eq_true rfl⟩) ⟨zPr.blind, va_recv hK.1 hPc (ci := 8) (q0 := 0) rfl rfl, z_prer hK hPc⟩ rfl rfl hl.1 rfl (lv_room (Nat.le_of_ble_eq_true rfl)) dL_holds_76 ⟨Nat.le_of_ble_eq_true rfl, Nat.le_of_ble_eq_true rfl⟩) ?_
    refine W.eq (g2 := F0 Mi 79 ls [.int (g 1)]) rfl ?_
    refine lv_sipush (v := 9000) hx hb dL_holds_79 (by decide) ?_
    refine lv_icmp_lt (tgt := 119) hx hb dL_holds_82 (by decide) (fun h9 => absurd h9 (Int32.not_lt.mpr (h_s hg).1)) (fun _ => ?_)
    refine lv_aload_n hx hb dL_holds_85 rfl (lv_at hl 4 rfl) ?_
    have hPc : va_P E.1 vwCl ([(z_W E xa na ma mb ad tx ln nx ct f0 f1 g ga gb v).flatten] : List va_W).flatten H := zf_sub hP [0] rfl
    refine z_rdv (va_runV (As := []) (rest := []) ⟨hx, hb, hml, hown, hts⟩ (c_X9_sea l E xa na ma mb ad tx ln nx ct f0 f1 g ga gb v hw) (cwV 0 hts gL_holds_X9_sea rfl rfl rfl (by decide +kernel) ⟨Nat.le_of_ble_eq_true rfl, Nat.le_of_ble_eq_true rfl⟩) ⟨zPr.blind, va_recv hK.1 hPc (ci := 8) (q0 := 0) rfl rfl, z_prer hK hPc⟩ rfl rfl hl.1 rfl (lv_room (Nat.le_of_ble_eq_true rfl)) dL_holds_86 ⟨Nat.le_of_ble_eq_true rfl, Nat.le_of_ble_eq_true rfl⟩) ?_
    refine W.eq (g2 := F0 Mi 89 ls [.int (g 1)]) rfl ?_
    refine lv_sipush (v := 10800) hx hb dL_holds_89 (by decide) ?_
    refine lv_icmp_gt (tgt := 119) hx hb dL_holds_92 (by decide) (fun h9 => absurd h9 (Int32.not_lt.mpr (h_s hg).2)) (fun _ => ?_)
    refine lv_aload_n hx hb dL_holds_95 rfl (lv_at hl 4 rfl) ?_
    have hPc : va_P E.1 vwCl ([(z_W E xa na ma mb ad tx ln nx ct f0 f1 g ga gb v).flatten] : List va_W).flatten H := zf_sub hP [0] rfl
    refine z_rdv (va_runV (As := []) (rest := []) ⟨hx, hb, hml, hown, hts⟩ (c_X9_pressure l E xa na ma mb ad tx ln nx ct f0 f1 g ga gb v hw) (cwV 0 hts gL_holds_X9_pressure rfl rfl rfl (by decide +kernel) ⟨Nat.le_of_ble_eq_true rfl, Nat.le_of_ble_eq_true rfl⟩) ⟨zPr.blind, va_recv hK.1 hPc (ci := 8) (q0 := 0) rfl rfl, z_prer hK hPc⟩ rfl rfl hl.1 rfl (lv_room (Nat.le_of_ble_eq_true rfl)) dL_holds_96 ⟨Nat.le_of_ble_eq_true rfl, Nat.le_of_ble_eq_true rfl⟩) ?_
    refine W.eq (g2 := F0 Mi 99 ls [.int (g 0)]) rfl ?_
    refine lv_sipush (v := 5000) hx hb dL_holds_99 (by decide) ?_
    refine lv_icmp_lt (tgt := 119) hx hb dL_holds_102 (by decide) (fun h9 => absurd h9 (Int32.not_lt.mpr (h_p hg).1)) (fun _ => ?_)
    refine lv_aload_n hx hb dL_holds_105 rfl (lv_at hl 4 rfl) ?_
    have hPc : va_P E.1 vwCl ([(z_W E xa na ma mb ad tx ln nx ct f0 f1 g ga gb v).flatten] : List va_W).flatten H := zf_sub hP [0] rfl
    refine z_rdv (va_runV (As := []) (rest := []) ⟨hx, hb, hml, hown, hts⟩ (c_X9_pressure l E xa na ma mb ad tx ln nx ct f0 f1 g ga gb v hw) (cwV 0 hts gL_holds_X9_pressure rfl rfl rfl (by decide +kernel) ⟨Nat.le_of_ble_eq_true rfl, Nat.le_of_ble_eq_true rfl⟩) ⟨zPr.blind, va_recv hK.1 hPc (ci := 8) (q0 := 0) rfl rfl, z_prer hK hPc⟩ rfl rfl hl.1 rfl (lv_room (Nat.le_of_ble_eq_true rfl)) dL_holds_106 ⟨Nat.le_of_ble_eq_true rfl, Nat.le_of_ble_eq_true rfl⟩) ?_
    refine W.eq (g2 := F0 Mi 109 ls [.int (g 0)]) rfl ?_
    refine lv_sipush (v := 11000) hx hb dL_holds_109 (by decide) ?_
    refine lv_icmp_gt (tgt := 119) hx hb dL_holds_112 (by decide) (fun h9 => absurd h9 (Int32.not_lt.mpr (h_p hg).2)) (fun _ => ?_)
    refine lv_iconst (v := 1) hx hb dL_holds_115 (by decide) ?_
    refine lv_goto (tgt := 120) hx hb dL_holds_116 (by decide) ?_
    refine lv_istore (lv' := [(6, .int 1), (5, .int (m_std (g 1))), (4, .int (nI (5000 + q))), (3, .int ((nI jh) - 4000)), (2, .int (nI (5000 + jp))), (0, .ref (xa 0)), (1, .int x)]) hx hb dL_holds_120 hl (by decide) rfl (fun ls hl => ?_)
    refine lv_iload hx hb dL_holds_122 (lv_at hl 0 rfl) ?_
    refine lv_if_eq (tgt := 190) hx hb dL_holds_124 (by decide) (fun h9 => absurd h9 ((by decide))) (fun _ => ?_)
    refine lv_iload hx hb dL_holds_127 (lv_at hl 2 rfl) ?_
    refine lv_iconst (v := (-1)) hx hb dL_holds_129 (by decide) ?_
    refine lv_icmp_ne (tgt := 150) hx hb dL_holds_130 (by decide) (fun _ => ?_) (fun h9 => absurd h9 (nI_nm1 (by omega)))
    refine lv_aload_n hx hb dL_holds_150 rfl (lv_at hl 5 rfl) ?_
    refine lv_iload hx hb dL_holds_151 (lv_at hl 2 rfl) ?_
    have ph_153 : 5000 ≤ (nI (5000 + q)) ∧ (nI (5000 + q)) ≤ 11000 := h_p5 hq
    have hPc : va_P E.1 vwCl ([(z_W E xa na ma mb ad tx ln nx ct f0 f1 g ga gb v).flatten] : List va_W).flatten H := zf_sub hP [0] rfl
    have hDc : va_D A ([(z_W E xa na ma mb ad tx ln nx ct f0 f1 g ga gb v).flatten] : List va_W).flatten := zf_subD hD [0] (by decide) rfl
    refine z_xmut (Sc := [(z_W E xa na ma mb ad tx ln nx ct f0 f1 g ga gb v).flatten]) (Sr := []) (W1 := [(z_W E xa na ma mb ad tx ln nx ct f0 f1 g ga gb v).flatten]) (vx_runV (As := [.int (nI (5000 + q))]) (rest := []) ⟨hx, hb, hml, hown, hts⟩ (c_X9_standard l E sa hl0 xa na ma mb ad tx ln nx ct f0 f1 g ga gb v hw (nI (5000 + q)) H.size) (cwV 1 hts gL_holds_X9_standard rfl rfl rfl (by decide +kernel) ⟨Nat.le_of_ble_eq_true rfl, Nat.le_of_ble_eq_true rfl⟩) ⟨zPE.blind, va_recv hK.1 hPc (ci := 8) (q0 := 0) rfl rfl, z_preE hK hT hZ hS (zf_free hD hS hA [0] rfl) hPc hDc⟩ rfl rfl hl.1 rfl (lv_room (Nat.le_of_ble_eq_true rfl)) dL_holds_153 ⟨Nat.le_of_ble_eq_true rfl, Nat.le_of_ble_eq_true rfl⟩) hP hD hS hA [0] [] rfl rfl (by decide) (by decide) (fun Ex ce q9 H locs hps hP hD hS hce hcv hcl => ?_) (fun H locs _ hP hD hS => ?_)
    · exact (absurd ph_153 hps.2)
    have hP : va_P E.1 vwCl ([(z_W E xa na ma mb ad tx ln nx ct f0 f1 g ga gb v).flatten] : List va_W).flatten H := hP
    have hD : va_D A ([(z_W E xa na ma mb ad tx ln nx ct f0 f1 g ga gb v).flatten] : List va_W).flatten := hD
    refine W.widen (k := 6) (n := 36) (by decide) (by decide) ?_
    refine W.eq (g2 := F0 Mi 156 ls [.int (m_std (nI (5000 + q)))]) rfl ?_
    refine lv_iload hx hb dL_holds_156 (lv_at hl 1 rfl) ?_
    refine lv_isub hx hb dL_holds_158 ?_
    refine lv_iload_n hx hb dL_holds_159 rfl (lv_at hl 3 rfl) ?_
    refine lv_icmp_lt (tgt := 190) hx hb dL_holds_160 (by decide) (fun h9 => absurd h9 (hm1)) (fun _ => ?_)
    refine lv_iload hx hb dL_holds_163 (lv_at hl 2 rfl) ?_
    refine lv_sipush (v := 11000) hx hb dL_holds_165 (by decide) ?_
    refine lv_icmp_eq (tgt := 186) hx hb dL_holds_168 (by decide) (fun c_168 => ?_) (fun c_168 => ?_)
    · refine W.widen (k := 7) (n := 42) (by decide) (by decide) ?_
      exact LOOP_186 1 (by decide) _ _ (zf_sub hP [0] rfl) (zf_subD hD [0] (by decide) rfl) hS ls (lv_sub hl [5] rfl)
    · refine lv_aload_n hx hb dL_holds_171 rfl (lv_at hl 5 rfl) ?_
      refine lv_iload hx hb dL_holds_172 (lv_at hl 2 rfl) ?_
      refine lv_iconst (v := 1) hx hb dL_holds_174 (by decide) ?_
      refine lv_iadd hx hb dL_holds_175 ?_
      have ph_176 : 5000 ≤ ((nI (5000 + q)) + 1) ∧ ((nI (5000 + q)) + 1) ≤ 11000 := h_p6 (hm2 c_168).1
      have hPc : va_P E.1 vwCl ([(z_W E xa na ma mb ad tx ln nx ct f0 f1 g ga gb v).flatten] : List va_W).flatten H := zf_sub hP [0] rfl
      have hDc : va_D A ([(z_W E xa na ma mb ad tx ln nx ct f0 f1 g ga gb v).flatten] : List va_W).flatten := zf_subD hD [0] (by decide) rfl
      refine z_xmut (Sc := [(z_W E xa na ma mb ad tx ln nx ct f0 f1 g ga gb v).flatten]) (Sr := []) (W1 := [(z_W E xa na ma mb ad tx ln nx ct f0 f1 g ga gb v).flatten]) (vx_runV (As := [.int ((nI (5000 + q)) + 1)]) (rest := []) ⟨hx, hb, hml, hown, hts⟩ (c_X9_standard l E sa hl0 xa na ma mb ad tx ln nx ct f0 f1 g ga gb v hw ((nI (5000 + q)) + 1) H.size) (cwV 1 hts gL_holds_X9_standard rfl rfl rfl (by decide +kernel) ⟨Nat.le_of_ble_eq_true rfl, Nat.le_of_ble_eq_true rfl⟩) ⟨zPE.blind, va_recv hK.1 hPc (ci := 8) (q0 := 0) rfl rfl, z_preE hK hT hZ hS (zf_free hD hS hA [0] rfl) hPc hDc⟩ rfl rfl hl.1 rfl (lv_room (Nat.le_of_ble_eq_true rfl)) dL_holds_176 ⟨Nat.le_of_ble_eq_true rfl, Nat.le_of_ble_eq_true rfl⟩) hP hD hS hA [0] [] rfl rfl (by decide) (by decide) (fun Ex ce q9 H locs hps hP hD hS hce hcv hcl => ?_) (fun H locs _ hP hD hS => ?_)
      · exact (absurd ph_176 hps.2)
      have hP : va_P E.1 vwCl ([(z_W E xa na ma mb ad tx ln nx ct f0 f1 g ga gb v).flatten] : List va_W).flatten H := hP
      have hD : va_D A ([(z_W E xa na ma mb ad tx ln nx ct f0 f1 g ga gb v).flatten] : List va_W).flatten := hD
      refine W.widen (k := 7) (n := 42) (by decide) (by decide) ?_
      refine W.eq (g2 := F0 Mi 179 ls [.int (m_std ((nI (5000 + q)) + 1))]) rfl ?_
      refine lv_iload hx hb dL_holds_179 (lv_at hl 1 rfl) ?_
      refine lv_isub hx hb dL_holds_181 ?_
      refine lv_iload_n hx hb dL_holds_182 rfl (lv_at hl 3 rfl) ?_
      refine lv_icmp_ge (tgt := 190) hx hb dL_holds_183 (by decide) (fun h9 => absurd h9 (Int32.not_le.mpr (hm2 c_168).2)) (fun _ => ?_)
      refine W.widen (k := 7) (n := 42) (by decide) (by decide) ?_
      exact LOOP_186 1 (by decide) _ _ (zf_sub hP [0] rfl) (zf_subD hD [0] (by decide) rfl) hS ls (lv_sub hl [5] rfl)
