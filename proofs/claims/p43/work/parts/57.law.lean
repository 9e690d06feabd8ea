/-- what the law's walk stands on -/
def z_LC (p : Program) (s : State) (m : MethodId) (c : Code) (b L : Nat) (xs : Nat → Int32) (E : zE) (sa : Nat → Nat) (A : Nat → Prop) : Prop :=
  p.tables.exec = Jvm.exec ∧ c.code = cL_law ∧ s.vm.findClass RL = some m.cls ∧ c.maxLocals = 12 ∧ (∀ w ∈ wsL_law, w.before #[Value.ref b] s = true) ∧ va_X b L xs s s.heap ∧ b < s.heap.size ∧ zK E s ∧ zT sa s ∧ zZ A s s.heap ∧ L ≤ 260 ∧ (∀ q, s.heap.size ≤ q → A q) ∧ ¬ A b
/-- the head of the law's loop, i turns done -/
def z_LK (Pg : Program) (l : Launch) (En : Env) (s : State) (Mi : MethodId) (below : List Frame) (meth : Method) (Cd : Code) (b : Nat) (E : zE) (A : Nat → Prop) (xa na ma mb : Nat → Nat) (ad : Nat → Nat → Nat) (tx : Nat → Int32) (i : Nat) : Prop :=
  ∀ (nx ct f1 : Int32) (g ga gb : Nat → Int32) (v : Nat → Nat → Int32) (H : Heap) (locs : List Loc) (ls : Array Slot),
    z_wk 0 nx ct 1 f1 g ga gb v → z_g (120 * i) g → z_g (120 * i) ga → va_P E.1 vwCl ([(z_W E xa na ma mb ad tx 0 nx ct 1 f1 g ga gb v).flatten] : List va_W).flatten H → va_D A ([(z_W E xa na ma mb ad tx 0 nx ct 1 f1 g ga gb v).flatten] : List va_W).flatten → va_S A s.heap H locs → lv_has ls 12 [(0, .ref b), (1, .ref (xa 0)), (2, .int 1), (3, .int (nI i))] →
    W Pg l En room_1 s Mi #[Value.ref b] below meth Cd H locs (139 * i + 223) (830 * i + 2566) (lw_Z below #[Value.ref b] s) (F0 Mi 33 ls [])
theorem r_pm {c : Int32} (h : r_lo 1 c) : nI (m_n c - 1) = c - 1 := by
  obtain ⟨e, h1, h2⟩ := h
  generalize m_n c = k at e h1 h2 ⊢
  rw [e]
  exact (pk_sub (b := 1) h1).symm
theorem r_ge {ct c1 : Int32} (h : ct = nI (m_n ct) ∧ m_n ct ≤ 6) (e : c1 = nI (if m_n ct < 6 then m_n ct + 1 else 6)) (c : 6 ≤ ct) : c1 = 6 := by
  obtain ⟨h1, h2⟩ := h
  generalize m_n ct = k at e h1 h2
  rw [h1] at c
  have := nI_len (a := 6) (b := k) (by decide) (by omega) c
  rw [e, if_neg (by omega)]
  rfl
theorem r_lt {ct c1 : Int32} (h : ct = nI (m_n ct) ∧ m_n ct ≤ 6) (e : c1 = nI (if m_n ct < 6 then m_n ct + 1 else 6)) (c : ¬ 6 ≤ ct) : c1 = ct + 1 := by
  obtain ⟨h1, h2⟩ := h
  generalize m_n ct = k at e h1 h2
  rw [h1] at c ⊢
  have := nI_nlen (a := 6) (b := k) (by decide) (by omega) c
  rw [e, if_pos this, nI_1]
theorem a_by (x : Int32) : ∃ e : Nat, 1 + a_up x 20 = nI e ∧ 1 ≤ e ∧ e ≤ 20 := by
  obtain ⟨S, e, h1, h2⟩ := a_rgN x (lo := 1) (k := 20) (K := 20) (LO := 1) rfl rfl (by decide) (by decide)
  exact ⟨S, e, h1, by omega⟩

set_option maxHeartbeats 4000000 in
set_option maxRecDepth 100000 in
theorem law_229 (sa : Nat → Nat) {Pg : Program} {l : Launch} {En : Env} {s : State} {Mi : MethodId} {below : List Frame} {meth : Method} {Cd : Code} {b L : Nat} {xs : Nat → Int32} {E : zE} {A : Nat → Prop} {xa na ma mb : Nat → Nat} {ad : Nat → Nat → Nat} {tx : Nat → Int32} {i : Nat} (hl0 : l.stackTraces = false) (C : z_LC Pg s Mi Cd b L xs E sa A) {nx ct f1 : Int32} {g ga gb : Nat → Int32} {v : Nat → Nat → Int32} (K : z_LK Pg l En s Mi below meth Cd b E A xa na ma mb ad tx (i + 1)) (hi : i < 34) (hw : z_wk 0 nx ct 1 f1 g ga gb v) (hg : z_g (120 * (i + 1)) g) (hga : z_g (120 * (i + 1)) ga) {cells slots : Nat} {H : Heap} {locs : List Loc} (hc : cells + 1 ≤ 139 * (i + 1) + 223) (hs : slots + 6 ≤ 830 * (i + 1) + 2566) (hP : va_P E.1 vwCl ([(z_W E xa na ma mb ad tx 0 nx ct 1 f1 g ga gb v).flatten] : List va_W).flatten H) (hD : va_D A ([(z_W E xa na ma mb ad tx 0 nx ct 1 f1 g ga gb v).flatten] : List va_W).flatten) (hS : va_S A s.heap H locs) {ls : Array Slot} (hl : lv_has ls 12 [(0, .ref b), (1, .ref (xa 0)), (2, .int 1), (3, .int (nI i))]) :
    W Pg l En room_1 s Mi #[Value.ref b] below meth Cd H locs cells slots (lw_Z below #[Value.ref b] s) (F0 Mi 229 ls []) := by
  obtain ⟨hx, hb, hown, hml, hts, hX, hbl, hK, hT, hZ, hL, hA, hbA⟩ := id C
  refine lv_iload_n hx hb dL_law_229 rfl (lv_at hl 3 rfl) ?_
  refine lv_bipush (v := 13) hx hb dL_law_230 (by decide) ?_
  refine lv_irem hx hb dL_law_232 (by decide) ?_
  refine lv_bipush (v := 8) hx hb dL_law_233 (by decide) ?_
  refine lv_icmp_ne (tgt := 250) hx hb dL_law_235 (by decide) (fun c_235 => ?_) (fun c_235 => ?_)
  · refine lv_iconst (v := 1) hx hb dL_law_250 (by decide) ?_
    refine lv_goto (tgt := 255) hx hb dL_law_251 (by decide) ?_
    refine lv_istore_n (lv' := [(2, .int 1), (0, .ref b), (1, .ref (xa 0)), (3, .int (nI i))]) hx hb dL_law_255 rfl hl (by decide) rfl (fun ls hl => ?_)
    refine lv_iinc (v := nI (i + 1)) (lv' := [(3, .int (nI (i + 1))), (2, .int 1), (0, .ref b), (1, .ref (xa 0))]) hx hb dL_law_256 hl (k := 3) rfl (nI_add i 1) (by decide) rfl (fun ls hl => ?_)
    refine lv_goto (tgt := 33) hx hb dL_law_259 (by decide) ?_
    refine W.widen (k := (139 * (i + 1) + 223)) (n := (830 * (i + 1) + 2566)) (by omega) (by omega) ?_
    exact K _ _ _ _ _ _ _ H locs _ hw hg hga hP hD hS (lv_sub hl [2, 3, 1, 0] rfl)
  · refine lv_aload_n hx hb dL_law_238 rfl (lv_at hl 1 rfl) ?_
    refine lv_iconst (v := 0) hx hb dL_law_239 (by decide) ?_
    have ph_240 : (0 : Int32) ≤ 0 ∧ (0 : Int32) ≤ 1 := ⟨by decide, by decide⟩
    have hPc : va_P E.1 vwCl ([(z_W E xa na ma mb ad tx 0 nx ct 1 f1 g ga gb v).flatten] : List va_W).flatten H := zf_sub hP [0] rfl
    have hDc : va_D A ([(z_W E xa na ma mb ad tx 0 nx ct 1 f1 g ga gb v).flatten] : List va_W).flatten := zf_subD hD [0] (by decide) rfl
    refine z_xmut (Sc := [(z_W E xa na ma mb ad tx 0 nx ct 1 f1 g ga gb v).flatten]) (Sr := []) (W1 := [(z_W E xa na ma mb ad tx 0 nx ct 1 f1 g g gb v).flatten]) (vx_runV (As := [.int 0]) (rest := []) ⟨hx, hb, hml, hown, hts⟩ (c_X9_store0 l E sa hl0 xa na ma mb ad tx 0 nx ct 1 f1 g ga gb v hw H.size) (cwV 1 hts gL_law_X9_store rfl rfl rfl (by decide +kernel) ⟨Nat.le_of_ble_eq_true rfl, Nat.le_of_ble_eq_true rfl⟩) ⟨zPE.blind, va_recv hK.1 hPc (ci := 8) (q0 := 0) rfl rfl, z_preE hK hT hZ hS (zf_free hD hS hA [0] rfl) hPc hDc⟩ rfl rfl hl.1 rfl (lv_room (Nat.le_of_ble_eq_true rfl)) dL_law_240 ⟨(by show _ ≤ 600172; omega), (by show _ ≤ 7300668; omega)⟩) hP hD hS hA [0] [] rfl rfl (by decide) (by decide) (fun Ex ce q9 H locs hps hP hD hS hce hcv hcl => ?_) (fun H locs _ hP hD hS => ?_)
    · exact (absurd ph_240 hps.2)
    have hP : va_P E.1 vwCl ([(z_W E xa na ma mb ad tx 0 nx ct 1 f1 g g gb v).flatten] : List va_W).flatten H := hP
    have hD : va_D A ([(z_W E xa na ma mb ad tx 0 nx ct 1 f1 g g gb v).flatten] : List va_W).flatten := hD
    refine W.eq (g2 := F0 Mi 243 ls [.int (m_std (g 0) - m_std (g 1))]) rfl ?_
    have hw_1 : z_wk 0 nx ct 1 f1 g g gb v := z_wk_st0 hw
    refine lv_aload_n hx hb dL_law_243 rfl (lv_at hl 1 rfl) ?_
    have hPc : va_P E.1 vwCl ([(z_W E xa na ma mb ad tx 0 nx ct 1 f1 g g gb v).flatten] : List va_W).flatten H := zf_sub hP [0] rfl
    refine z_rdv (va_runV (As := []) (rest := [.int (m_std (g 0) - m_std (g 1))]) ⟨hx, hb, hml, hown, hts⟩ (c_X9_altitude l E xa na ma mb ad tx 0 nx ct 1 f1 g g gb v hw_1) (cwV 0 hts gL_law_X9_altitude rfl rfl rfl (by decide +kernel) ⟨Nat.le_of_ble_eq_true rfl, Nat.le_of_ble_eq_true rfl⟩) ⟨zPr.blind, va_recv hK.1 hPc (ci := 8) (q0 := 0) rfl rfl, z_prer hK hPc⟩ rfl rfl hl.1 rfl (lv_room (Nat.le_of_ble_eq_true rfl)) dL_law_244 ⟨(by show _ ≤ 600172; omega), (by show _ ≤ 7300668; omega)⟩) ?_
    refine W.eq (g2 := F0 Mi 247 ls [.int (m_std (g 0) - m_std (g 1)), .int (m_std (g 0) - m_std (g 1))]) rfl ?_
    refine lv_icmp_ne (tgt := 254) hx hb dL_law_247 (by decide) (fun h9 => absurd (rfl) h9) (fun _ => ?_)
    refine lv_iconst (v := 1) hx hb dL_law_250 (by decide) ?_
    refine lv_goto (tgt := 255) hx hb dL_law_251 (by decide) ?_
    refine lv_istore_n (lv' := [(2, .int 1), (0, .ref b), (1, .ref (xa 0)), (3, .int (nI i))]) hx hb dL_law_255 rfl hl (by decide) rfl (fun ls hl => ?_)
    refine lv_iinc (v := nI (i + 1)) (lv' := [(3, .int (nI (i + 1))), (2, .int 1), (0, .ref b), (1, .ref (xa 0))]) hx hb dL_law_256 hl (k := 3) rfl (nI_add i 1) (by decide) rfl (fun ls hl => ?_)
    refine lv_goto (tgt := 33) hx hb dL_law_259 (by decide) ?_
    refine W.widen (k := (139 * (i + 1) + 223)) (n := (830 * (i + 1) + 2566)) (by omega) (by omega) ?_
    exact K _ _ _ _ _ _ _ H locs _ hw_1 hg hg hP hD hS (lv_sub hl [2, 3, 1, 0] rfl)

set_option maxHeartbeats 4000000 in
set_option maxRecDepth 100000 in
theorem law_189 (sa : Nat → Nat) {Pg : Program} {l : Launch} {En : Env} {s : State} {Mi : MethodId} {below : List Frame} {meth : Method} {Cd : Code} {b L : Nat} {xs : Nat → Int32} {E : zE} {A : Nat → Prop} {xa na ma mb : Nat → Nat} {ad : Nat → Nat → Nat} {tx : Nat → Int32} {i : Nat} (hl0 : l.stackTraces = false) (C : z_LC Pg s Mi Cd b L xs E sa A) {nx ct f1 : Int32} {g ga gb : Nat → Int32} {v : Nat → Nat → Int32} (K : z_LK Pg l En s Mi below meth Cd b E A xa na ma mb ad tx (i + 1)) (hi : i < 34) (hw : z_wk 0 nx ct 1 f1 g ga gb v) (hg : z_g (120 * (i + 1)) g) (hga : z_g (120 * (i + 1)) ga) {x y : Int32} {cells slots : Nat} {H : Heap} {locs : List Loc} (hc : cells + 124 ≤ 139 * (i + 1) + 223) (hs : slots + 744 ≤ 830 * (i + 1) + 2566) (hP : va_P E.1 vwCl ([(z_W E xa na ma mb ad tx 0 nx ct 1 f1 g ga gb v).flatten] : List va_W).flatten H) (hD : va_D A ([(z_W E xa na ma mb ad tx 0 nx ct 1 f1 g ga gb v).flatten] : List va_W).flatten) (hS : va_S A s.heap H locs) {ls : Array Slot} (hl : lv_has ls 12 [(0, .ref b), (1, .ref (xa 0)), (2, .int 1), (3, .int (nI i)), (4, .int x), (5, .int y)]) :
    W Pg l En room_1 s Mi #[Value.ref b] below meth Cd H locs cells slots (lw_Z below #[Value.ref b] s) (F0 Mi 189 ls []) := by
  obtain ⟨hx, hb, hown, hml, hts, hX, hbl, hK, hT, hZ, hL, hA, hbA⟩ := id C
  refine lv_iload_n hx hb dL_law_189 rfl (lv_at hl 2 rfl) ?_
  refine lv_if_eq (tgt := 254) hx hb dL_law_190 (by decide) (fun h9 => absurd h9 ((by decide))) (fun _ => ?_)
  refine lv_aload_n hx hb dL_law_193 rfl (lv_at hl 1 rfl) ?_
  refine lv_iload hx hb dL_law_194 (lv_at hl 5 rfl) ?_
  refine lv_iconst (v := 3) hx hb dL_law_196 (by decide) ?_
  refine lv_ishr hx hb dL_law_197 ?_
  have hPc : va_P E.1 vwCl ([(z_W E xa na ma mb ad tx 0 nx ct 1 f1 g ga gb v).flatten] : List va_W).flatten H := zf_sub hP [0] rfl
  have hDc : va_D A ([(z_W E xa na ma mb ad tx 0 nx ct 1 f1 g ga gb v).flatten] : List va_W).flatten := zf_subD hD [0] (by decide) rfl
  refine z_xmut (Sc := [(z_W E xa na ma mb ad tx 0 nx ct 1 f1 g ga gb v).flatten]) (Sr := []) (W1 := [(z_W E xa na ma mb ad tx 0 nx ct 1 f1 g ga gb v).flatten]) (vx_runS (As := [.ref (xa 0), .int (y >>> (3 &&& 31))]) (rest := []) ⟨hx, hb, hml, hown, hts⟩ (c_L_holds l E sa hl0 xa na ma mb ad tx 0 nx ct 1 f1 g ga gb v hw hg (by omega) (y >>> (3 &&& 31)) H.size) (va_cwS 2 hts gL_law_L_holds rfl rfl rfl (by decide +kernel) ⟨Nat.le_of_ble_eq_true rfl, Nat.le_of_ble_eq_true rfl⟩) ⟨zPE.blind, z_preE hK hT hZ hS (zf_free hD hS hA [0] rfl) hPc hDc⟩ rfl rfl hl.1 rfl (lv_room (Nat.le_of_ble_eq_true rfl)) dL_law_198 ⟨(by show _ ≤ 600172; omega), (by show _ ≤ 7300668; omega)⟩) hP hD hS hA [0] [] rfl rfl (by decide) (by decide) (fun Ex ce q9 H locs hps hP hD hS hce hcv hcl => hps.elim) (fun H locs _ hP hD hS => ?_)
  have hP : va_P E.1 vwCl ([(z_W E xa na ma mb ad tx 0 nx ct 1 f1 g ga gb v).flatten] : List va_W).flatten H := hP
  have hD : va_D A ([(z_W E xa na ma mb ad tx 0 nx ct 1 f1 g ga gb v).flatten] : List va_W).flatten := hD
  refine W.eq (g2 := F0 Mi 201 ls [.int 1]) rfl ?_
  refine lv_if_eq (tgt := 254) hx hb dL_law_201 (by decide) (fun h9 => absurd h9 ((by decide))) (fun _ => ?_)
  refine lv_iload_n hx hb dL_law_204 rfl (lv_at hl 3 rfl) ?_
  refine lv_iconst (v := 4) hx hb dL_law_205 (by decide) ?_
  refine lv_irem hx hb dL_law_206 (by decide) ?_
  refine lv_iconst (v := 1) hx hb dL_law_207 (by decide) ?_
  refine lv_icmp_ne (tgt := 229) hx hb dL_law_208 (by decide) (fun c_208 => ?_) (fun c_208 => ?_)
  · exact law_229 sa hl0 C K hi hw hg hga (by omega) (by omega) hP hD hS (lv_sub hl [0, 1, 2, 3] rfl)
  · refine lv_aload_n hx hb dL_law_211 rfl (lv_at hl 1 rfl) ?_
    refine lv_iconst (v := 1) hx hb dL_law_212 (by decide) ?_
    refine lv_iload hx hb dL_law_213 (lv_at hl 4 rfl) ?_
    refine lv_iconst (v := 5) hx hb dL_law_215 (by decide) ?_
    refine lv_ishr hx hb dL_law_216 ?_
    refine lv_bipush (v := 20) hx hb dL_law_217 (by decide) ?_
    refine z_rdv (va_runS (As := [.int (x >>> (5 &&& 31)), .int 20]) (rest := [.int 1, .ref (xa 0)]) ⟨hx, hb, hml, hown, hts⟩ (c_L_up l E (x >>> (5 &&& 31)) 20 (by decide)) (va_cwS 2 hts gL_law_L_up rfl rfl rfl (by decide +kernel) ⟨Nat.le_of_ble_eq_true rfl, Nat.le_of_ble_eq_true rfl⟩) ⟨zPr.blind, z_prer hK zP_nil⟩ rfl rfl hl.1 rfl (lv_room (Nat.le_of_ble_eq_true rfl)) dL_law_219 ⟨(by show _ ≤ 600172; omega), (by show _ ≤ 7300668; omega)⟩) ?_
    refine W.eq (g2 := F0 Mi 222 ls [.int (a_up (x >>> (5 &&& 31)) 20), .int 1, .ref (xa 0)]) rfl ?_
    refine lv_iadd hx hb dL_law_222 ?_
    obtain ⟨e, hxe, he1, he2⟩ := a_by (x >>> (5 &&& 31))
    have hPc : va_P E.1 vwCl ([(z_W E xa na ma mb ad tx 0 nx ct 1 f1 g ga gb v).flatten] : List va_W).flatten H := zf_sub hP [0] rfl
    have hDc : va_D A ([(z_W E xa na ma mb ad tx 0 nx ct 1 f1 g ga gb v).flatten] : List va_W).flatten := zf_subD hD [0] (by decide) rfl
    refine z_ymut (Sc := [(z_W E xa na ma mb ad tx 0 nx ct 1 f1 g ga gb v).flatten]) (Sr := []) (W1 := fun (u : Int32 × (Nat → Nat → Int32)) => [(z_W E xa na ma mb ad tx 0 nx u.1 1 1 g ga g u.2).flatten]) (vx_runS (As := [.ref (xa 0), .int ((1 : Int32) + (a_up (x >>> (5 &&& 31)) 20))]) (rest := []) ⟨hx, hb, hml, hown, hts⟩ (c_L_isAhead l E sa hl0 xa na ma mb ad tx 0 nx ct 1 f1 g ga gb v hw hg ((1 : Int32) + (a_up (x >>> (5 &&& 31)) 20)) hxe he1 he2 H.size) (va_cwS 2 hts gL_law_L_isAhead rfl rfl rfl (by decide +kernel) ⟨Nat.le_of_ble_eq_true rfl, Nat.le_of_ble_eq_true rfl⟩) ⟨zPE.blind, z_preE hK hT hZ hS (zf_free hD hS hA [0] rfl) hPc hDc⟩ rfl rfl hl.1 rfl (lv_room (Nat.le_of_ble_eq_true rfl)) dL_law_223 ⟨(by show _ ≤ 600172; omega), (by show _ ≤ 7300668; omega)⟩) hP hD hS hA [0] [] rfl rfl (by decide) (by decide) (fun u H locs hwu hP hD hS => ?_)
    have hP : va_P E.1 vwCl ([(z_W E xa na ma mb ad tx 0 nx u.1 1 1 g ga g u.2).flatten] : List va_W).flatten H := hP
    have hD : va_D A ([(z_W E xa na ma mb ad tx 0 nx u.1 1 1 g ga g u.2).flatten] : List va_W).flatten := hD
    obtain ⟨ct1, v1⟩ := u
    have hP : va_P E.1 vwCl ([(z_W E xa na ma mb ad tx 0 nx ct1 1 1 g ga g v1).flatten] : List va_W).flatten H := hP
    have hD : va_D A ([(z_W E xa na ma mb ad tx 0 nx ct1 1 1 g ga g v1).flatten] : List va_W).flatten := hD
    have hw9 : z_wk 0 nx ct1 1 1 g ga g v1 := hwu
    refine W.eq (g2 := F0 Mi 226 ls [.int 1]) rfl ?_
    refine lv_if_eq (tgt := 254) hx hb dL_law_226 (by decide) (fun h9 => absurd h9 ((by decide))) (fun _ => ?_)
    exact law_229 sa hl0 C K hi hw9 hg hga (by omega) (by omega) hP hD hS (lv_sub hl [0, 1, 2, 3] rfl)

set_option maxHeartbeats 4000000 in
set_option maxRecDepth 100000 in
theorem law_loop {Pg : Program} {l : Launch} {En : Env} {s : State} {Mi : MethodId} {below : List Frame} {meth : Method} {Cd : Code} {b L : Nat} {xs : Nat → Int32} {E : zE} (sa : Nat → Nat) {xa na ma mb : Nat → Nat} {ad : Nat → Nat → Nat} {tx : Nat → Int32} (hl0 : l.stackTraces = false) (hr : meth.sig.returnType = ret) (hlocks : meth.locks = false) (C : z_LC Pg s Mi Cd b L xs E sa (fun q => s.heap.size ≤ q)) :
    ∀ (n i : Nat), 34 < i + n → i ≤ 34 → z_LK Pg l En s Mi below meth Cd b E (fun q => s.heap.size ≤ q) xa na ma mb ad tx i := by
  intro n
  induction n with
  | zero =>
    intro i h1 h2
    exact absurd h1 (by omega)
  | succ n ih =>
    intro i h1 h3 nx ct f1 g ga gb v H locs ls hw hg hga hP hD hS hl
    obtain ⟨A, eA⟩ : ∃ A : Nat → Prop, A = (fun q => s.heap.size ≤ q) := ⟨_, rfl⟩
    have hSf := hS.2.2
    rw [← eA] at hD hS C ih
    obtain ⟨hx, hb, hown, hml, hts, hX, hbl, hK, hT, hZ, hL, hA, hbA⟩ := id C
    refine lv_iload_n hx hb dL_law_33 rfl (lv_at hl 3 rfl) ?_
    refine lv_bipush (v := 34) hx hb dL_law_34 (by decide) ?_
    refine lv_icmp_ge (tgt := 262) hx hb dL_law_36 (by decide) (fun _ => ?_) (fun c9 => ?_)
    · refine lv_iload_n hx hb dL_law_262 rfl (lv_at hl 2 rfl) ?_
      refine va_forget hSf ?_
      refine W.widen (k := 600172) (n := 7300668) (by omega) (by omega) ?_
      refine W.base ?_
      exact lw_ret (d0 := s.drawn) (Drawn.sameBut.refl s.drawn lw_cs) hx hb hr hlocks dL_law_263
    · have hi : i < 34 := nI_nlen (a := 34) (b := i) (by decide) (by omega) c9
      have K : z_LK Pg l En s Mi below meth Cd b E A xa na ma mb ad tx (i + 1) := ih (i + 1) (by omega) (by omega)
      refine lv_iload_n hx hb dL_law_39 rfl (lv_at hl 2 rfl) ?_
      refine lv_if_eq (tgt := 262) hx hb dL_law_40 (by decide) (fun h9 => absurd h9 ((by decide))) (fun _ => ?_)
      refine lv_aload_n hx hb dL_law_43 rfl (lv_at hl 0 rfl) ?_
      refine lv_iconst (v := 2) hx hb dL_law_44 (by decide) ?_
      refine lv_iload_n hx hb dL_law_45 rfl (lv_at hl 3 rfl) ?_
      refine lv_imul hx hb dL_law_46 ?_
      refine z_topi (y := nI (2 * i)) (pk_mul 2 i) ?_
      refine z_rdv (va_runS (As := [.ref b, .int (nI (2 * i))]) (rest := []) ⟨hx, hb, hml, hown, hts⟩ (c_L_cell l (k := (2 * i)) (xs := xs) hL (by omega)) (va_cwS 2 hts gL_law_L_cell rfl rfl rfl (by decide +kernel) ⟨Nat.le_of_ble_eq_true rfl, Nat.le_of_ble_eq_true rfl⟩) ⟨zRs.blind, z_prers hX hbl hbA hS⟩ rfl rfl hl.1 rfl (lv_room (Nat.le_of_ble_eq_true rfl)) dL_law_47 ⟨(by show _ ≤ 600172; omega), (by show _ ≤ 7300668; omega)⟩) ?_
      refine W.eq (g2 := F0 Mi 50 ls [.int (a_ce L xs (2 * i))]) rfl ?_
      refine lv_topi (fun x e_x => ?_)
      refine lv_istore (lv' := [(4, .int x), (0, .ref b), (1, .ref (xa 0)), (2, .int 1), (3, .int (nI i))]) hx hb dL_law_50 hl (by decide) rfl (fun ls hl => ?_)
      refine lv_aload_n hx hb dL_law_52 rfl (lv_at hl 1 rfl) ?_
      refine lv_iconst (v := 2) hx hb dL_law_53 (by decide) ?_
      refine lv_iload_n hx hb dL_law_54 rfl (lv_at hl 4 rfl) ?_
      refine lv_imul hx hb dL_law_55 ?_
      refine z_topi (y := nI (2 * i)) (pk_mul 2 i) ?_
      refine lv_iconst (v := 1) hx hb dL_law_56 (by decide) ?_
      refine lv_iadd hx hb dL_law_57 ?_
      refine z_topi (y := nI (2 * i + 1)) (nI_1 _) ?_
      refine z_rdv (va_runS (As := [.ref b, .int (nI (2 * i + 1))]) (rest := []) ⟨hx, hb, hml, hown, hts⟩ (c_L_cell l (k := (2 * i + 1)) (xs := xs) hL (by omega)) (va_cwS 2 hts gL_law_L_cell rfl rfl rfl (by decide +kernel) ⟨Nat.le_of_ble_eq_true rfl, Nat.le_of_ble_eq_true rfl⟩) ⟨zRs.blind, z_prers hX hbl hbA hS⟩ rfl rfl hl.1 rfl (lv_room (Nat.le_of_ble_eq_true rfl)) dL_law_58 ⟨(by show _ ≤ 600172; omega), (by show _ ≤ 7300668; omega)⟩) ?_
      refine W.eq (g2 := F0 Mi 61 ls [.int (a_ce L xs (2 * i + 1))]) rfl ?_
      refine lv_topi (fun y e_y => ?_)
      refine lv_istore (lv' := [(5, .int y), (4, .int x), (0, .ref b), (1, .ref (xa 0)), (2, .int 1), (3, .int (nI i))]) hx hb dL_law_61 hl (by decide) rfl (fun ls hl => ?_)
      refine lv_aload_n hx hb dL_law_63 rfl (lv_at hl 3 rfl) ?_
      have hPc : va_P E.1 vwCl ([(z_W E xa na ma mb ad tx 0 nx ct 1 f1 g ga gb v).flatten] : List va_W).flatten H := zf_sub hP [0] rfl
      refine z_rdv (va_runV (As := []) (rest := []) ⟨hx, hb, hml, hown, hts⟩ (c_X9_digest l E xa na ma mb ad tx 0 nx ct 1 f1 g ga gb v hw) (cwV 0 hts gL_law_X9_digest rfl rfl rfl (by decide +kernel) ⟨Nat.le_of_ble_eq_true rfl, Nat.le_of_ble_eq_true rfl⟩) ⟨zPr.blind, va_recv hK.1 hPc (ci := 8) (q0 := 0) rfl rfl, z_prer hK hPc⟩ rfl rfl hl.1 rfl (lv_room (Nat.le_of_ble_eq_true rfl)) dL_law_64 ⟨(by show _ ≤ 600172; omega), (by show _ ≤ 7300668; omega)⟩) ?_
      refine W.eq (g2 := F0 Mi 67 ls [.long (m_dg g)]) rfl ?_
      refine lv_lstore (lv' := [(6, .long (m_dg g)), (5, .int y), (4, .int x), (0, .ref b), (1, .ref (xa 0)), (2, .int 1), (3, .int (nI i))]) hx hb dL_law_67 hl (by decide) rfl (fun ls hl => ?_)
      refine lv_aload_n hx hb dL_law_69 rfl (lv_at hl 4 rfl) ?_
      have hPc : va_P E.1 vwCl ([(z_W E xa na ma mb ad tx 0 nx ct 1 f1 g ga gb v).flatten] : List va_W).flatten H := zf_sub hP [0] rfl
      refine z_rdv (va_runV (As := []) (rest := []) ⟨hx, hb, hml, hown, hts⟩ (c_X9_savedStates l E xa na ma mb ad tx 0 nx ct 1 f1 g ga gb v hw) (cwV 0 hts gL_law_X9_savedStates rfl rfl rfl (by decide +kernel) ⟨Nat.le_of_ble_eq_true rfl, Nat.le_of_ble_eq_true rfl⟩) ⟨zPr.blind, va_recv hK.1 hPc (ci := 8) (q0 := 0) rfl rfl, z_prer hK hPc⟩ rfl rfl hl.1 rfl (lv_room (Nat.le_of_ble_eq_true rfl)) dL_law_70 ⟨(by show _ ≤ 600172; omega), (by show _ ≤ 7300668; omega)⟩) ?_
      refine W.eq (g2 := F0 Mi 73 ls [.int ct]) rfl ?_
      refine lv_istore (lv' := [(8, .int ct), (6, .long (m_dg g)), (5, .int y), (4, .int x), (0, .ref b), (1, .ref (xa 0)), (2, .int 1), (3, .int (nI i))]) hx hb dL_law_73 hl (by decide) rfl (fun ls hl => ?_)
      refine lv_aload_n hx hb dL_law_75 rfl (lv_at hl 5 rfl) ?_
      refine lv_iload hx hb dL_law_76 (lv_at hl 3 rfl) ?_
      refine lv_iload hx hb dL_law_78 (lv_at hl 2 rfl) ?_
      obtain ⟨j, hj16, hj⟩ := a_up_n x (k := 16) (by decide) (by decide)
      have hPc : va_P E.1 vwCl ([(z_W E xa na ma mb ad tx 0 nx ct 1 f1 g ga gb v).flatten] : List va_W).flatten H := zf_sub hP [0] rfl
      have hDc : va_D A ([(z_W E xa na ma mb ad tx 0 nx ct 1 f1 g ga gb v).flatten] : List va_W).flatten := zf_subD hD [0] (by decide) rfl
      refine z_xmut (Sc := [(z_W E xa na ma mb ad tx 0 nx ct 1 f1 g ga gb v).flatten]) (Sr := []) (W1 := [(z_W E xa na ma mb ad tx 0 (nI ((m_n nx + 1) % 6)) (nI (if m_n ct < 6 then m_n ct + 1 else 6)) 1 f1 (a_gA g ga y j) ga gb (va_up v (m_n nx) g)).flatten]) (vx_runS (As := [.ref (xa 0), .int x, .int y]) (rest := []) ⟨hx, hb, hml, hown, hts⟩ (c_L_acts l E sa hl0 xa na ma mb ad tx 0 nx ct 1 f1 g ga gb v hw hg (by omega) (by decide) hga.1.1 x y j hj hj16 H.size) (va_cwS 3 hts gL_law_L_acts rfl rfl rfl (by decide +kernel) ⟨Nat.le_of_ble_eq_true rfl, Nat.le_of_ble_eq_true rfl⟩) ⟨zPE.blind, z_preE hK hT hZ hS (zf_free hD hS hA [0] rfl) hPc hDc⟩ rfl rfl hl.1 rfl (lv_room (Nat.le_of_ble_eq_true rfl)) dL_law_80 ⟨(by show _ ≤ 600172; omega), (by show _ ≤ 7300668; omega)⟩) hP hD hS hA [0] [] rfl rfl (by decide) (by decide) (fun Ex ce q9 H locs hps hP hD hS hce hcv hcl => hps.elim) (fun H locs _ hP hD hS => ?_)
      have hP : va_P E.1 vwCl ([(z_W E xa na ma mb ad tx 0 (nI ((m_n nx + 1) % 6)) (nI (if m_n ct < 6 then m_n ct + 1 else 6)) 1 f1 (a_gA g ga y j) ga gb (va_up v (m_n nx) g)).flatten] : List va_W).flatten H := hP
      have hD : va_D A ([(z_W E xa na ma mb ad tx 0 (nI ((m_n nx + 1) % 6)) (nI (if m_n ct < 6 then m_n ct + 1 else 6)) 1 f1 (a_gA g ga y j) ga gb (va_up v (m_n nx) g)).flatten] : List va_W).flatten := hD
      have hw_1 : z_wk 0 (nI ((m_n nx + 1) % 6)) (nI (if m_n ct < 6 then m_n ct + 1 else 6)) 1 f1 (a_gA g ga y j) ga gb (va_up v (m_n nx) g) := z_wk_save hw (show z_ok (a_gA g ga y j) from (z_g_acts hg hga y j).1.1)
      obtain ⟨n1, e_n1⟩ : ∃ z, z = nI ((m_n nx + 1) % 6) := ⟨_, rfl⟩
      obtain ⟨c1, e_c1⟩ : ∃ z, z = nI (if m_n ct < 6 then m_n ct + 1 else 6) := ⟨_, rfl⟩
      obtain ⟨v1, e_v1⟩ : ∃ z, z = va_up v (m_n nx) g := ⟨_, rfl⟩
      have hP : va_P E.1 vwCl ([(z_W E xa na ma mb ad tx 0 n1 c1 1 f1 (a_gA g ga y j) ga gb v1).flatten] : List va_W).flatten H := by rw [e_n1, e_c1, e_v1]; exact hP
      have hD : va_D A ([(z_W E xa na ma mb ad tx 0 n1 c1 1 f1 (a_gA g ga y j) ga gb v1).flatten] : List va_W).flatten := by rw [e_n1, e_c1, e_v1]; exact hD
      have hw_2 : z_wk 0 n1 c1 1 f1 (a_gA g ga y j) ga gb v1 := by rw [e_n1, e_c1, e_v1]; exact hw_1
      refine W.eq (g2 := F0 Mi 83 ls [.int 1]) rfl ?_
      refine lv_if_eq (tgt := 113) hx hb dL_law_83 (by decide) (fun h9 => absurd h9 ((by decide))) (fun _ => ?_)
      refine lv_aload_n hx hb dL_law_86 rfl (lv_at hl 5 rfl) ?_
      have hPc : va_P E.1 vwCl ([(z_W E xa na ma mb ad tx 0 n1 c1 1 f1 (a_gA g ga y j) ga gb v1).flatten] : List va_W).flatten H := zf_sub hP [0] rfl
      refine z_rdv (va_runV (As := []) (rest := []) ⟨hx, hb, hml, hown, hts⟩ (c_X9_savedStates l E xa na ma mb ad tx 0 n1 c1 1 f1 (a_gA g ga y j) ga gb v1 hw_2) (cwV 0 hts gL_law_X9_savedStates rfl rfl rfl (by decide +kernel) ⟨Nat.le_of_ble_eq_true rfl, Nat.le_of_ble_eq_true rfl⟩) ⟨zPr.blind, va_recv hK.1 hPc (ci := 8) (q0 := 0) rfl rfl, z_prer hK hPc⟩ rfl rfl hl.1 rfl (lv_room (Nat.le_of_ble_eq_true rfl)) dL_law_87 ⟨(by show _ ≤ 600172; omega), (by show _ ≤ 7300668; omega)⟩) ?_
      refine W.eq (g2 := F0 Mi 90 ls [.int c1]) rfl ?_
      refine lv_iload hx hb dL_law_90 (lv_at hl 0 rfl) ?_
      refine lv_bipush (v := 6) hx hb dL_law_92 (by decide) ?_
      refine lv_icmp_ge (tgt := 104) hx hb dL_law_94 (by decide) (fun c_94 => ?_) (fun c_94 => ?_)
      · refine lv_bipush (v := 6) hx hb dL_law_104 (by decide) ?_
        refine lv_icmp_ne (tgt := 113) hx hb dL_law_106 (by decide) (fun h9 => absurd (r_ge hw.2.2.1 e_c1 c_94) h9) (fun _ => ?_)
        refine lv_iconst (v := 1) hx hb dL_law_109 (by decide) ?_
        refine lv_goto (tgt := 114) hx hb dL_law_110 (by decide) ?_
        refine lv_istore_n (lv' := [(2, .int 1), (8, .int ct), (6, .long (m_dg g)), (5, .int y), (4, .int x), (0, .ref b), (1, .ref (xa 0)), (3, .int (nI i))]) hx hb dL_law_114 rfl hl (by decide) rfl (fun ls hl => ?_)
        refine lv_iload_n hx hb dL_law_115 rfl (lv_at hl 0 rfl) ?_
        refine lv_if_eq (tgt := 189) hx hb dL_law_116 (by decide) (fun h9 => absurd h9 ((by decide))) (fun _ => ?_)
        refine lv_iload hx hb dL_law_119 (lv_at hl 4 rfl) ?_
        refine lv_bipush (v := 8) hx hb dL_law_121 (by decide) ?_
        refine lv_ishr hx hb dL_law_123 ?_
        refine lv_iconst (v := 3) hx hb dL_law_124 (by decide) ?_
        refine lv_iand hx hb dL_law_125 ?_
        refine lv_if_ne (tgt := 189) hx hb dL_law_126 (by decide) (fun c_126 => ?_) (fun c_126 => ?_)
        · exact law_189 sa hl0 C K hi hw_2 (z_g_up (z_g_acts hg hga y j) (by omega)) (z_g_up hga (by omega)) (by omega) (by omega) hP hD hS (lv_sub hl [5, 6, 0, 7, 4, 3] rfl)
        · refine lv_aload_n hx hb dL_law_129 rfl (lv_at hl 6 rfl) ?_
          have hPc : va_P E.1 vwCl ([(z_W E xa na ma mb ad tx 0 n1 c1 1 f1 (a_gA g ga y j) ga gb v1).flatten] : List va_W).flatten H := zf_sub hP [0] rfl
          refine z_rdv (va_runV (As := []) (rest := []) ⟨hx, hb, hml, hown, hts⟩ (c_X9_digest l E xa na ma mb ad tx 0 n1 c1 1 f1 (a_gA g ga y j) ga gb v1 hw_2) (cwV 0 hts gL_law_X9_digest rfl rfl rfl (by decide +kernel) ⟨Nat.le_of_ble_eq_true rfl, Nat.le_of_ble_eq_true rfl⟩) ⟨zPr.blind, va_recv hK.1 hPc (ci := 8) (q0 := 0) rfl rfl, z_prer hK hPc⟩ rfl rfl hl.1 rfl (lv_room (Nat.le_of_ble_eq_true rfl)) dL_law_130 ⟨(by show _ ≤ 600172; omega), (by show _ ≤ 7300668; omega)⟩) ?_
          refine W.eq (g2 := F0 Mi 133 ls [.long (m_dg (a_gA g ga y j))]) rfl ?_
          refine lv_lstore (lv' := [(9, .long (m_dg (a_gA g ga y j))), (2, .int 1), (8, .int ct), (6, .long (m_dg g)), (5, .int y), (4, .int x), (0, .ref b), (1, .ref (xa 0)), (3, .int (nI i))]) hx hb dL_law_133 hl (by decide) rfl (fun ls hl => ?_)
          refine lv_aload_n hx hb dL_law_135 rfl (lv_at hl 7 rfl) ?_
          have hPc : va_P E.1 vwCl ([(z_W E xa na ma mb ad tx 0 n1 c1 1 f1 (a_gA g ga y j) ga gb v1).flatten] : List va_W).flatten H := zf_sub hP [0] rfl
          refine z_rdv (va_runV (As := []) (rest := []) ⟨hx, hb, hml, hown, hts⟩ (c_X9_savedStates l E xa na ma mb ad tx 0 n1 c1 1 f1 (a_gA g ga y j) ga gb v1 hw_2) (cwV 0 hts gL_law_X9_savedStates rfl rfl rfl (by decide +kernel) ⟨Nat.le_of_ble_eq_true rfl, Nat.le_of_ble_eq_true rfl⟩) ⟨zPr.blind, va_recv hK.1 hPc (ci := 8) (q0 := 0) rfl rfl, z_prer hK hPc⟩ rfl rfl hl.1 rfl (lv_room (Nat.le_of_ble_eq_true rfl)) dL_law_136 ⟨(by show _ ≤ 600172; omega), (by show _ ≤ 7300668; omega)⟩) ?_
          refine W.eq (g2 := F0 Mi 139 ls [.int c1]) rfl ?_
          refine lv_iconst (v := 1) hx hb dL_law_139 (by decide) ?_
          refine lv_isub hx hb dL_law_140 ?_
          refine lv_istore (lv' := [(11, .int (c1 - 1)), (9, .long (m_dg (a_gA g ga y j))), (2, .int 1), (8, .int ct), (6, .long (m_dg g)), (5, .int y), (4, .int x), (0, .ref b), (1, .ref (xa 0)), (3, .int (nI i))]) hx hb dL_law_141 hl (by decide) rfl (fun ls hl => ?_)
          refine lv_aload_n hx hb dL_law_143 rfl (lv_at hl 8 rfl) ?_
          have ph_144 : ¬ c1 = 0 := r_ne (r_lo1 (r_lo0 hw.2.2.1) (by decide) e_c1)
          have hPc : va_P E.1 vwCl ([(z_W E xa na ma mb ad tx 0 n1 c1 1 f1 (a_gA g ga y j) ga gb v1).flatten] : List va_W).flatten H := zf_sub hP [0] rfl
          have hDc : va_D A ([(z_W E xa na ma mb ad tx 0 n1 c1 1 f1 (a_gA g ga y j) ga gb v1).flatten] : List va_W).flatten := zf_subD hD [0] (by decide) rfl
          refine z_xmut (Sc := [(z_W E xa na ma mb ad tx 0 n1 c1 1 f1 (a_gA g ga y j) ga gb v1).flatten]) (Sr := []) (W1 := [(z_W E xa na ma mb ad tx 0 nx (nI (m_n c1 - 1)) 1 f1 g ga gb v1).flatten]) (vx_runV (As := []) (rest := []) ⟨hx, hb, hml, hown, hts⟩ (c_X9_undoG l E sa hl0 xa na ma mb ad tx 0 n1 c1 1 f1 (a_gA g ga y j) ga gb v1 hw_2 (r_e1 hw.2.1 e_n1) (r_e2 hw.2.1 e_n1 e_v1) H.size) (cwV 0 hts gL_law_X9_undo rfl rfl rfl (by decide +kernel) ⟨Nat.le_of_ble_eq_true rfl, Nat.le_of_ble_eq_true rfl⟩) ⟨zPE.blind, va_recv hK.1 hPc (ci := 8) (q0 := 0) rfl rfl, z_preE hK hT hZ hS (zf_free hD hS hA [0] rfl) hPc hDc⟩ rfl rfl hl.1 rfl (lv_room (Nat.le_of_ble_eq_true rfl)) dL_law_144 ⟨(by show _ ≤ 600172; omega), (by show _ ≤ 7300668; omega)⟩) hP hD hS hA [0] [] rfl rfl (by decide) (by decide) (fun Ex ce q9 H locs hps hP hD hS hce hcv hcl => ?_) (fun H locs _ hP hD hS => ?_)
          · exact (absurd hps.2 ph_144)
          have hP : va_P E.1 vwCl ([(z_W E xa na ma mb ad tx 0 nx (nI (m_n c1 - 1)) 1 f1 g ga gb v1).flatten] : List va_W).flatten H := hP
          have hD : va_D A ([(z_W E xa na ma mb ad tx 0 nx (nI (m_n c1 - 1)) 1 f1 g ga gb v1).flatten] : List va_W).flatten := hD
          refine W.eq (g2 := F0 Mi 147 ls [.int (nI (m_n c1 - 1))]) rfl ?_
          have hw_3 : z_wk 0 nx (nI (m_n c1 - 1)) 1 f1 g ga gb v1 := r_wku hw_2 (r_e1 hw.2.1 e_n1) (r_e2 hw.2.1 e_n1 e_v1) rfl hw.1
          obtain ⟨c2, e_c2⟩ : ∃ z, z = (nI (m_n c1 - 1)) := ⟨_, rfl⟩
          have hP : va_P E.1 vwCl ([(z_W E xa na ma mb ad tx 0 nx c2 1 f1 g ga gb v1).flatten] : List va_W).flatten H := by rw [e_c2]; exact hP
          have hD : va_D A ([(z_W E xa na ma mb ad tx 0 nx c2 1 f1 g ga gb v1).flatten] : List va_W).flatten := by rw [e_c2]; exact hD
          have hw_4 : z_wk 0 nx c2 1 f1 g ga gb v1 := by rw [e_c2]; exact hw_3
          refine lv_iload hx hb dL_law_147 (lv_at hl 0 rfl) ?_
          refine lv_icmp_ne (tgt := 187) hx hb dL_law_149 (by decide) (fun h9 => absurd (r_pm (r_lo1 (r_lo0 hw.2.2.1) (by decide) e_c1)) h9) (fun _ => ?_)
          refine lv_aload_n hx hb dL_law_152 rfl (lv_at hl 8 rfl) ?_
          have hPc : va_P E.1 vwCl ([(z_W E xa na ma mb ad tx 0 nx c2 1 f1 g ga gb v1).flatten] : List va_W).flatten H := zf_sub hP [0] rfl
          refine z_rdv (va_runV (As := []) (rest := []) ⟨hx, hb, hml, hown, hts⟩ (c_X9_digest l E xa na ma mb ad tx 0 nx c2 1 f1 g ga gb v1 hw_4) (cwV 0 hts gL_law_X9_digest rfl rfl rfl (by decide +kernel) ⟨Nat.le_of_ble_eq_true rfl, Nat.le_of_ble_eq_true rfl⟩) ⟨zPr.blind, va_recv hK.1 hPc (ci := 8) (q0 := 0) rfl rfl, z_prer hK hPc⟩ rfl rfl hl.1 rfl (lv_room (Nat.le_of_ble_eq_true rfl)) dL_law_153 ⟨(by show _ ≤ 600172; omega), (by show _ ≤ 7300668; omega)⟩) ?_
          refine W.eq (g2 := F0 Mi 156 ls [.long (m_dg g)]) rfl ?_
          refine lv_lload hx hb dL_law_156 (lv_at hl 4 rfl) ?_
          refine W.lcmp hx hb dL_law_158 ?_
          refine lv_if_ne (tgt := 187) hx hb dL_law_159 (by decide) (fun h9 => absurd (z_lcs _) h9) (fun _ => ?_)
          refine lv_aload_n hx hb dL_law_162 rfl (lv_at hl 8 rfl) ?_
          refine lv_iload hx hb dL_law_163 (lv_at hl 6 rfl) ?_
          refine lv_iload hx hb dL_law_165 (lv_at hl 5 rfl) ?_
          have hPc : va_P E.1 vwCl ([(z_W E xa na ma mb ad tx 0 nx c2 1 f1 g ga gb v1).flatten] : List va_W).flatten H := zf_sub hP [0] rfl
          have hDc : va_D A ([(z_W E xa na ma mb ad tx 0 nx c2 1 f1 g ga gb v1).flatten] : List va_W).flatten := zf_subD hD [0] (by decide) rfl
          refine z_xmut (Sc := [(z_W E xa na ma mb ad tx 0 nx c2 1 f1 g ga gb v1).flatten]) (Sr := []) (W1 := [(z_W E xa na ma mb ad tx 0 (nI ((m_n nx + 1) % 6)) (nI (if m_n c2 < 6 then m_n c2 + 1 else 6)) 1 f1 (a_gA g ga y j) ga gb (va_up v1 (m_n nx) g)).flatten]) (vx_runS (As := [.ref (xa 0), .int x, .int y]) (rest := []) ⟨hx, hb, hml, hown, hts⟩ (c_L_acts l E sa hl0 xa na ma mb ad tx 0 nx c2 1 f1 g ga gb v1 hw_4 hg (by omega) (by decide) hga.1.1 x y j hj hj16 H.size) (va_cwS 3 hts gL_law_L_acts rfl rfl rfl (by decide +kernel) ⟨Nat.le_of_ble_eq_true rfl, Nat.le_of_ble_eq_true rfl⟩) ⟨zPE.blind, z_preE hK hT hZ hS (zf_free hD hS hA [0] rfl) hPc hDc⟩ rfl rfl hl.1 rfl (lv_room (Nat.le_of_ble_eq_true rfl)) dL_law_167 ⟨(by show _ ≤ 600172; omega), (by show _ ≤ 7300668; omega)⟩) hP hD hS hA [0] [] rfl rfl (by decide) (by decide) (fun Ex ce q9 H locs hps hP hD hS hce hcv hcl => hps.elim) (fun H locs _ hP hD hS => ?_)
          have hP : va_P E.1 vwCl ([(z_W E xa na ma mb ad tx 0 (nI ((m_n nx + 1) % 6)) (nI (if m_n c2 < 6 then m_n c2 + 1 else 6)) 1 f1 (a_gA g ga y j) ga gb (va_up v1 (m_n nx) g)).flatten] : List va_W).flatten H := hP
          have hD : va_D A ([(z_W E xa na ma mb ad tx 0 (nI ((m_n nx + 1) % 6)) (nI (if m_n c2 < 6 then m_n c2 + 1 else 6)) 1 f1 (a_gA g ga y j) ga gb (va_up v1 (m_n nx) g)).flatten] : List va_W).flatten := hD
          have hw_5 : z_wk 0 (nI ((m_n nx + 1) % 6)) (nI (if m_n c2 < 6 then m_n c2 + 1 else 6)) 1 f1 (a_gA g ga y j) ga gb (va_up v1 (m_n nx) g) := z_wk_save hw_4 (show z_ok (a_gA g ga y j) from (z_g_acts hg hga y j).1.1)
          obtain ⟨n3, e_n3⟩ : ∃ z, z = nI ((m_n nx + 1) % 6) := ⟨_, rfl⟩
          obtain ⟨c3, e_c3⟩ : ∃ z, z = nI (if m_n c2 < 6 then m_n c2 + 1 else 6) := ⟨_, rfl⟩
          obtain ⟨v3, e_v3⟩ : ∃ z, z = va_up v1 (m_n nx) g := ⟨_, rfl⟩
          have hP : va_P E.1 vwCl ([(z_W E xa na ma mb ad tx 0 n3 c3 1 f1 (a_gA g ga y j) ga gb v3).flatten] : List va_W).flatten H := by rw [e_n3, e_c3, e_v3]; exact hP
          have hD : va_D A ([(z_W E xa na ma mb ad tx 0 n3 c3 1 f1 (a_gA g ga y j) ga gb v3).flatten] : List va_W).flatten := by rw [e_n3, e_c3, e_v3]; exact hD
          have hw_6 : z_wk 0 n3 c3 1 f1 (a_gA g ga y j) ga gb v3 := by rw [e_n3, e_c3, e_v3]; exact hw_5
          refine W.eq (g2 := F0 Mi 170 ls [.int 1]) rfl ?_
          refine lv_if_eq (tgt := 187) hx hb dL_law_170 (by decide) (fun h9 => absurd h9 ((by decide))) (fun _ => ?_)
          refine lv_aload_n hx hb dL_law_173 rfl (lv_at hl 8 rfl) ?_
          have hPc : va_P E.1 vwCl ([(z_W E xa na ma mb ad tx 0 n3 c3 1 f1 (a_gA g ga y j) ga gb v3).flatten] : List va_W).flatten H := zf_sub hP [0] rfl
          refine z_rdv (va_runV (As := []) (rest := []) ⟨hx, hb, hml, hown, hts⟩ (c_X9_digest l E xa na ma mb ad tx 0 n3 c3 1 f1 (a_gA g ga y j) ga gb v3 hw_6) (cwV 0 hts gL_law_X9_digest rfl rfl rfl (by decide +kernel) ⟨Nat.le_of_ble_eq_true rfl, Nat.le_of_ble_eq_true rfl⟩) ⟨zPr.blind, va_recv hK.1 hPc (ci := 8) (q0 := 0) rfl rfl, z_prer hK hPc⟩ rfl rfl hl.1 rfl (lv_room (Nat.le_of_ble_eq_true rfl)) dL_law_174 ⟨(by show _ ≤ 600172; omega), (by show _ ≤ 7300668; omega)⟩) ?_
          refine W.eq (g2 := F0 Mi 177 ls [.long (m_dg (a_gA g ga y j))]) rfl ?_
          refine lv_lload hx hb dL_law_177 (lv_at hl 1 rfl) ?_
          refine W.lcmp hx hb dL_law_179 ?_
          refine lv_if_ne (tgt := 187) hx hb dL_law_180 (by decide) (fun h9 => absurd (z_lcs _) h9) (fun _ => ?_)
          refine lv_iconst (v := 1) hx hb dL_law_183 (by decide) ?_
          refine lv_goto (tgt := 188) hx hb dL_law_184 (by decide) ?_
          refine lv_istore_n (lv' := [(2, .int 1), (11, .int (c1 - 1)), (9, .long (m_dg (a_gA g ga y j))), (8, .int ct), (6, .long (m_dg g)), (5, .int y), (4, .int x), (0, .ref b), (1, .ref (xa 0)), (3, .int (nI i))]) hx hb dL_law_188 rfl hl (by decide) rfl (fun ls hl => ?_)
          exact law_189 sa hl0 C K hi hw_6 (z_g_up (z_g_acts hg hga y j) (by omega)) (z_g_up hga (by omega)) (by omega) (by omega) hP hD hS (lv_sub hl [7, 8, 0, 9, 6, 5] rfl)
      · refine lv_iload hx hb dL_law_97 (lv_at hl 0 rfl) ?_
        refine lv_iconst (v := 1) hx hb dL_law_99 (by decide) ?_
        refine lv_iadd hx hb dL_law_100 ?_
        refine lv_goto (tgt := 106) hx hb dL_law_101 (by decide) ?_
        refine lv_icmp_ne (tgt := 113) hx hb dL_law_106 (by decide) (fun h9 => absurd (r_lt hw.2.2.1 e_c1 c_94) h9) (fun _ => ?_)
        refine lv_iconst (v := 1) hx hb dL_law_109 (by decide) ?_
        refine lv_goto (tgt := 114) hx hb dL_law_110 (by decide) ?_
        refine lv_istore_n (lv' := [(2, .int 1), (8, .int ct), (6, .long (m_dg g)), (5, .int y), (4, .int x), (0, .ref b), (1, .ref (xa 0)), (3, .int (nI i))]) hx hb dL_law_114 rfl hl (by decide) rfl (fun ls hl => ?_)
        refine lv_iload_n hx hb dL_law_115 rfl (lv_at hl 0 rfl) ?_
        refine lv_if_eq (tgt := 189) hx hb dL_law_116 (by decide) (fun h9 => absurd h9 ((by decide))) (fun _ => ?_)
        refine lv_iload hx hb dL_law_119 (lv_at hl 4 rfl) ?_
        refine lv_bipush (v := 8) hx hb dL_law_121 (by decide) ?_
        refine lv_ishr hx hb dL_law_123 ?_
        refine lv_iconst (v := 3) hx hb dL_law_124 (by decide) ?_
        refine lv_iand hx hb dL_law_125 ?_
        refine lv_if_ne (tgt := 189) hx hb dL_law_126 (by decide) (fun c_126 => ?_) (fun c_126 => ?_)
        · exact law_189 sa hl0 C K hi hw_2 (z_g_up (z_g_acts hg hga y j) (by omega)) (z_g_up hga (by omega)) (by omega) (by omega) hP hD hS (lv_sub hl [5, 6, 0, 7, 4, 3] rfl)
        · refine lv_aload_n hx hb dL_law_129 rfl (lv_at hl 6 rfl) ?_
          have hPc : va_P E.1 vwCl ([(z_W E xa na ma mb ad tx 0 n1 c1 1 f1 (a_gA g ga y j) ga gb v1).flatten] : List va_W).flatten H := zf_sub hP [0] rfl
          refine z_rdv (va_runV (As := []) (rest := []) ⟨hx, hb, hml, hown, hts⟩ (c_X9_digest l E xa na ma mb ad tx 0 n1 c1 1 f1 (a_gA g ga y j) ga gb v1 hw_2) (cwV 0 hts gL_law_X9_digest rfl rfl rfl (by decide +kernel) ⟨Nat.le_of_ble_eq_true rfl, Nat.le_of_ble_eq_true rfl⟩) ⟨zPr.blind, va_recv hK.1 hPc (ci := 8) (q0 := 0) rfl rfl, z_prer hK hPc⟩ rfl rfl hl.1 rfl (lv_room (Nat.le_of_ble_eq_true rfl)) dL_law_130 ⟨(by show _ ≤ 600172; omega), (by show _ ≤ 7300668; omega)⟩) ?_
          refine W.eq (g2 := F0 Mi 133 ls [.long (m_dg (a_gA g ga y j))]) rfl ?_
          refine lv_lstore (lv' := [(9, .long (m_dg (a_gA g ga y j))), (2, .int 1), (8, .int ct), (6, .long (m_dg g)), (5, .int y), (4, .int x), (0, .ref b), (1, .ref (xa 0)), (3, .int (nI i))]) hx hb dL_law_133 hl (by decide) rfl (fun ls hl => ?_)
          refine lv_aload_n hx hb dL_law_135 rfl (lv_at hl 7 rfl) ?_
          have hPc : va_P E.1 vwCl ([(z_W E xa na ma mb ad tx 0 n1 c1 1 f1 (a_gA g ga y j) ga gb v1).flatten] : List va_W).flatten H := zf_sub hP [0] rfl
          refine z_rdv (va_runV (As := []) (rest := []) ⟨hx, hb, hml, hown, hts⟩ (c_X9_savedStates l E xa na ma mb ad tx 0 n1 c1 1 f1 (a_gA g ga y j) ga gb v1 hw_2) (cwV 0 hts gL_law_X9_savedStates rfl rfl rfl (by decide +kernel) ⟨Nat.le_of_ble_eq_true rfl, Nat.le_of_ble_eq_true rfl⟩) ⟨zPr.blind, va_recv hK.1 hPc (ci := 8) (q0 := 0) rfl rfl, z_prer hK hPc⟩ rfl rfl hl.1 rfl (lv_room (Nat.le_of_ble_eq_true rfl)) dL_law_136 ⟨(by show _ ≤ 600172; omega), (by show _ ≤ 7300668; omega)⟩) ?_
          refine W.eq (g2 := F0 Mi 139 ls [.int c1]) rfl ?_
          refine lv_iconst (v := 1) hx hb dL_law_139 (by decide) ?_
          refine lv_isub hx hb dL_law_140 ?_
          refine lv_istore (lv' := [(11, .int (c1 - 1)), (9, .long (m_dg (a_gA g ga y j))), (2, .int 1), (8, .int ct), (6, .long (m_dg g)), (5, .int y), (4, .int x), (0, .ref b), (1, .ref (xa 0)), (3, .int (nI i))]) hx hb dL_law_141 hl (by decide) rfl (fun ls hl => ?_)
          refine lv_aload_n hx hb dL_law_143 rfl (lv_at hl 8 rfl) ?_
          have ph_144 : ¬ c1 = 0 := r_ne (r_lo1 (r_lo0 hw.2.2.1) (by decide) e_c1)
          have hPc : va_P E.1 vwCl ([(z_W E xa na ma mb ad tx 0 n1 c1 1 f1 (a_gA g ga y j) ga gb v1).flatten] : List va_W).flatten H := zf_sub hP [0] rfl
          have hDc : va_D A ([(z_W E xa na ma mb ad tx 0 n1 c1 1 f1 (a_gA g ga y j) ga gb v1).flatten] : List va_W).flatten := zf_subD hD [0] (by decide) rfl
          refine z_xmut (Sc := [(z_W E xa na ma mb ad tx 0 n1 c1 1 f1 (a_gA g ga y j) ga gb v1).flatten]) (Sr := []) (W1 := [(z_W E xa na ma mb ad tx 0 nx (nI (m_n c1 - 1)) 1 f1 g ga gb v1).flatten]) (vx_runV (As := []) (rest := []) ⟨hx, hb, hml, hown, hts⟩ (c_X9_undoG l E sa hl0 xa na ma mb ad tx 0 n1 c1 1 f1 (a_gA g ga y j) ga gb v1 hw_2 (r_e1 hw.2.1 e_n1) (r_e2 hw.2.1 e_n1 e_v1) H.size) (cwV 0 hts gL_law_X9_undo rfl rfl rfl (by decide +kernel) ⟨Nat.le_of_ble_eq_true rfl, Nat.le_of_ble_eq_true rfl⟩) ⟨zPE.blind, va_recv hK.1 hPc (ci := 8) (q0 := 0) rfl rfl, z_preE hK hT hZ hS (zf_free hD hS hA [0] rfl) hPc hDc⟩ rfl rfl hl.1 rfl (lv_room (Nat.le_of_ble_eq_true rfl)) dL_law_144 ⟨(by show _ ≤ 600172; omega), (by show _ ≤ 7300668; omega)⟩) hP hD hS hA [0] [] rfl rfl (by decide) (by decide) (fun Ex ce q9 H locs hps hP hD hS hce hcv hcl => ?_) (fun H locs _ hP hD hS => ?_)
          · exact (absurd hps.2 ph_144)
          have hP : va_P E.1 vwCl ([(z_W E xa na ma mb ad tx 0 nx (nI (m_n c1 - 1)) 1 f1 g ga gb v1).flatten] : List va_W).flatten H := hP
          have hD : va_D A ([(z_W E xa na ma mb ad tx 0 nx (nI (m_n c1 - 1)) 1 f1 g ga gb v1).flatten] : List va_W).flatten := hD
          refine W.eq (g2 := F0 Mi 147 ls [.int (nI (m_n c1 - 1))]) rfl ?_
          have hw_7 : z_wk 0 nx (nI (m_n c1 - 1)) 1 f1 g ga gb v1 := r_wku hw_2 (r_e1 hw.2.1 e_n1) (r_e2 hw.2.1 e_n1 e_v1) rfl hw.1
          obtain ⟨c2, e_c2⟩ : ∃ z, z = (nI (m_n c1 - 1)) := ⟨_, rfl⟩
          have hP : va_P E.1 vwCl ([(z_W E xa na ma mb ad tx 0 nx c2 1 f1 g ga gb v1).flatten] : List va_W).flatten H := by rw [e_c2]; exact hP
          have hD : va_D A ([(z_W E xa na ma mb ad tx 0 nx c2 1 f1 g ga gb v1).flatten] : List va_W).flatten := by rw [e_c2]; exact hD
          have hw_8 : z_wk 0 nx c2 1 f1 g ga gb v1 := by rw [e_c2]; exact hw_7
          refine lv_iload hx hb dL_law_147 (lv_at hl 0 rfl) ?_
          refine lv_icmp_ne (tgt := 187) hx hb dL_law_149 (by decide) (fun h9 => absurd (r_pm (r_lo1 (r_lo0 hw.2.2.1) (by decide) e_c1)) h9) (fun _ => ?_)
          refine lv_aload_n hx hb dL_law_152 rfl (lv_at hl 8 rfl) ?_
          have hPc : va_P E.1 vwCl ([(z_W E xa na ma mb ad tx 0 nx c2 1 f1 g ga gb v1).flatten] : List va_W).flatten H := zf_sub hP [0] rfl
          refine z_rdv (va_runV (As := []) (rest := []) ⟨hx, hb, hml, hown, hts⟩ (c_X9_digest l E xa na ma mb ad tx 0 nx c2 1 f1 g ga gb v1 hw_8) (cwV 0 hts gL_law_X9_digest rfl rfl rfl (by decide +kernel) ⟨Nat.le_of_ble_eq_true rfl, Nat.le_of_ble_eq_true rfl⟩) ⟨zPr.blind, va_recv hK.1 hPc (ci := 8) (q0 := 0) rfl rfl, z_prer hK hPc⟩ rfl rfl hl.1 rfl (lv_room (Nat.le_of_ble_eq_true rfl)) dL_law_153 ⟨(by show _ ≤ 600172; omega), (by show _ ≤ 7300668; omega)⟩) ?_
          refine W.eq (g2 := F0 Mi 156 ls [.long (m_dg g)]) rfl ?_
          refine lv_lload hx hb dL_law_156 (lv_at hl 4 rfl) ?_
          refine W.lcmp hx hb dL_law_158 ?_
          refine lv_if_ne (tgt := 187) hx hb dL_law_159 (by decide) (fun h9 => absurd (z_lcs _) h9) (fun _ => ?_)
          refine lv_aload_n hx hb dL_law_162 rfl (lv_at hl 8 rfl) ?_
          refine lv_iload hx hb dL_law_163 (lv_at hl 6 rfl) ?_
          refine lv_iload hx hb dL_law_165 (lv_at hl 5 rfl) ?_
          have hPc : va_P E.1 vwCl ([(z_W E xa na ma mb ad tx 0 nx c2 1 f1 g ga gb v1).flatten] : List va_W).flatten H := zf_sub hP [0] rfl
          have hDc : va_D A ([(z_W E xa na ma mb ad tx 0 nx c2 1 f1 g ga gb v1).flatten] : List va_W).flatten := zf_subD hD [0] (by decide) rfl
          refine z_xmut (Sc := [(z_W E xa na ma mb ad tx 0 nx c2 1 f1 g ga gb v1).flatten]) (Sr := []) (W1 := [(z_W E xa na ma mb ad tx 0 (nI ((m_n nx + 1) % 6)) (nI (if m_n c2 < 6 then m_n c2 + 1 else 6)) 1 f1 (a_gA g ga y j) ga gb (va_up v1 (m_n nx) g)).flatten]) (vx_runS (As := [.ref (xa 0), .int x, .int y]) (rest := []) ⟨hx, hb, hml, hown, hts⟩ (c_L_acts l E sa hl0 xa na ma mb ad tx 0 nx c2 1 f1 g ga gb v1 hw_8 hg (by omega) (by decide) hga.1.1 x y j hj hj16 H.size) (va_cwS 3 hts gL_law_L_acts rfl rfl rfl (by decide +kernel) ⟨Nat.le_of_ble_eq_true rfl, Nat.le_of_ble_eq_true rfl⟩) ⟨zPE.blind, z_preE hK hT hZ hS (zf_free hD hS hA [0] rfl) hPc hDc⟩ rfl rfl hl.1 rfl (lv_room (Nat.le_of_ble_eq_true rfl)) dL_law_167 ⟨(by show _ ≤ 600172; omega), (by show _ ≤ 7300668; omega)⟩) hP hD hS hA [0] [] rfl rfl (by decide) (by decide) (fun Ex ce q9 H locs hps hP hD hS hce hcv hcl => hps.elim) (fun H locs _ hP hD hS => ?_)
          have hP : va_P E.1 vwCl ([(z_W E xa na ma mb ad tx 0 (nI ((m_n nx + 1) % 6)) (nI (if m_n c2 < 6 then m_n c2 + 1 else 6)) 1 f1 (a_gA g ga y j) ga gb (va_up v1 (m_n nx) g)).flatten] : List va_W).flatten H := hP
          have hD : va_D A ([(z_W E xa na ma mb ad tx 0 (nI ((m_n nx + 1) % 6)) (nI (if m_n c2 < 6 then m_n c2 + 1 else 6)) 1 f1 (a_gA g ga y j) ga gb (va_up v1 (m_n nx) g)).flatten] : List va_W).flatten := hD
          have hw_9 : z_wk 0 (nI ((m_n nx + 1) % 6)) (nI (if m_n c2 < 6 then m_n c2 + 1 else 6)) 1 f1 (a_gA g ga y j) ga gb (va_up v1 (m_n nx) g) := z_wk_save hw_8 (show z_ok (a_gA g ga y j) from (z_g_acts hg hga y j).1.1)
          obtain ⟨n3, e_n3⟩ : ∃ z, z = nI ((m_n nx + 1) % 6) := ⟨_, rfl⟩
          obtain ⟨c3, e_c3⟩ : ∃ z, z = nI (if m_n c2 < 6 then m_n c2 + 1 else 6) := ⟨_, rfl⟩
          obtain ⟨v3, e_v3⟩ : ∃ z, z = va_up v1 (m_n nx) g := ⟨_, rfl⟩
          have hP : va_P E.1 vwCl ([(z_W E xa na ma mb ad tx 0 n3 c3 1 f1 (a_gA g ga y j) ga gb v3).flatten] : List va_W).flatten H := by rw [e_n3, e_c3, e_v3]; exact hP
          have hD : va_D A ([(z_W E xa na ma mb ad tx 0 n3 c3 1 f1 (a_gA g ga y j) ga gb v3).flatten] : List va_W).flatten := by rw [e_n3, e_c3, e_v3]; exact hD
          have hw_10 : z_wk 0 n3 c3 1 f1 (a_gA g ga y j) ga gb v3 := by rw [e_n3, e_c3, e_v3]; exact hw_9
          refine W.eq (g2 := F0 Mi 170 ls [.int 1]) rfl ?_
          refine lv_if_eq (tgt := 187) hx hb dL_law_170 (by decide) (fun h9 => absurd h9 ((by decide))) (fun _ => ?_)
          refine lv_aload_n hx hb dL_law_173 rfl (lv_at hl 8 rfl) ?_
          have hPc : va_P E.1 vwCl ([(z_W E xa na ma mb ad tx 0 n3 c3 1 f1 (a_gA g ga y j) ga gb v3).flatten] : List va_W).flatten H := zf_sub hP [0] rfl
          refine z_rdv (va_runV (As := []) (rest := []) ⟨hx, hb, hml, hown, hts⟩ (c_X9_digest l E xa na ma mb ad tx 0 n3 c3 1 f1 (a_gA g ga y j) ga gb v3 hw_10) (cwV 0 hts gL_law_X9_digest rfl rfl rfl (by decide +kernel) ⟨Nat.le_of_ble_eq_true rfl, Nat.le_of_ble_eq_true rfl⟩) ⟨zPr.blind, va_recv hK.1 hPc (ci := 8) (q0 := 0) rfl rfl, z_prer hK hPc⟩ rfl rfl hl.1 rfl (lv_room (Nat.le_of_ble_eq_true rfl)) dL_law_174 ⟨(by show _ ≤ 600172; omega), (by show _ ≤ 7300668; omega)⟩) ?_
          refine W.eq (g2 := F0 Mi 177 ls [.long (m_dg (a_gA g ga y j))]) rfl ?_
          refine lv_lload hx hb dL_law_177 (lv_at hl 1 rfl) ?_
          refine W.lcmp hx hb dL_law_179 ?_
          refine lv_if_ne (tgt := 187) hx hb dL_law_180 (by decide) (fun h9 => absurd (z_lcs _) h9) (fun _ => ?_)
          refine lv_iconst (v := 1) hx hb dL_law_183 (by decide) ?_
          refine lv_goto (tgt := 188) hx hb dL_law_184 (by decide) ?_
          refine lv_istore_n (lv' := [(2, .int 1), (11, .int (c1 - 1)), (9, .long (m_dg (a_gA g ga y j))), (8, .int ct), (6, .long (m_dg g)), (5, .int y), (4, .int x), (0, .ref b), (1, .ref (xa 0)), (3, .int (nI i))]) hx hb dL_law_188 rfl hl (by decide) rfl (fun ls hl => ?_)
          exact law_189 sa hl0 C K hi hw_10 (z_g_up (z_g_acts hg hga y j) (by omega)) (z_g_up hga (by omega)) (by omega) (by omega) hP hD hS (lv_sub hl [7, 8, 0, 9, 6, 5] rfl)

