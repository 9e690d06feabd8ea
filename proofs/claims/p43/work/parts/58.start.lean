theorem z_str {own tx : String} {k : Nat} {A : Array Value} {s : State} (h : (Cond.stringRef own k tx).before A s = true) (hc : ∃ cur, s.vm.findClass own = some cur) : ∃ a, vk_R own k tx a s := by
  obtain ⟨cur, hc⟩ := hc
  obtain ⟨_, _, _, a, _, _, _, _, _, hev⟩ := Cond.stringRef_spec hc h
  exact ⟨a, vk_R.of h hev⟩
theorem z_arI {A : Array Value} {s : State} (h : (Cond.arrayClass .int).before A s = true) : ∃ cA : ClassId, ArrOfT s cA .int ∧ va_RA s cA .int := by
  obtain ⟨c, k, comp, h1, h2, h3⟩ := Cond.arrayClass_spec h
  exact ⟨c, fun n z => ⟨fun k h => (by cases h), k, h2, comp, h3⟩, h1⟩
theorem z_arO {C : String} {A : Array Value} {s : State} (h : (Cond.arrayOver (.object C)).before A s = true) : ∃ cA : ClassId, ArrOfT s cA (.object C) ∧ va_RA s cA (.object C) := by
  obtain ⟨comp, c, k, h1, h2, h3, h4, h5⟩ := Cond.arrayOver_spec h
  exact ⟨c, fun n z => ⟨fun k h => (by cases h), k, h3, comp, h4⟩, k, comp, h3, h4, h1, h5⟩
set_option maxHeartbeats 4000000 in
set_option maxRecDepth 100000 in
theorem z_known {A : Array Value} {s : State} (hts : ∀ w ∈ lw_tbl, w.before A s = true) : ∃ E : zE, zK E s := by
  obtain ⟨c0, i0, hk0⟩ := u_known (C := RX1) (T := TX1) (N := 4) (n := 4) hts inX1 (hts (.instantiable RX1 4) (by decide +kernel))
  obtain ⟨c1, i1, hk1⟩ := u_known (C := RX2) (T := TX2) (N := 4) (n := 4) hts inX2 (hts (.instantiable RX2 4) (by decide +kernel))
  obtain ⟨c2, i2, hk2⟩ := u_known (C := RX3) (T := TX3) (N := 2) (n := 2) hts inX3 (hts (.instantiable RX3 2) (by decide +kernel))
  obtain ⟨c3, i3, hk3⟩ := u_known (C := RX4) (T := TX4) (N := 3) (n := 3) hts inX4 (hts (.instantiable RX4 3) (by decide +kernel))
  obtain ⟨c4, i4, hk4⟩ := u_known (C := RX5) (T := TX5) (N := 10) (n := 10) hts inX5 (hts (.instantiable RX5 10) (by decide +kernel))
  obtain ⟨c5, i5, hk5⟩ := u_known (C := RX7) (T := TX7) (N := 2) (n := 2) hts inX7 (hts (.instantiable RX7 2) (by decide +kernel))
  obtain ⟨c6, i6, hk6⟩ := u_known (C := RX7) (T := TX7) (N := 2) (n := 2) hts inX7 (hts (.instantiable RX7 2) (by decide +kernel))
  obtain ⟨c7, i7, hk7⟩ := u_known (C := RX8) (T := TX8) (N := 5) (n := 5) hts inX8 (hts (.instantiable RX8 5) (by decide +kernel))
  obtain ⟨c8, i8, hk8⟩ := u_known (C := RX9) (T := TX9) (N := 5) (n := 5) hts inX9 (hts (.instantiable RX9 5) (by decide +kernel))
  obtain ⟨a0, ha0⟩ := z_arI (hts (.arrayClass .int) (by decide +kernel))
  obtain ⟨a2, ha2⟩ := z_arO (C := RX5) (hts (.arrayOver (.object RX5)) (by decide +kernel))
  refine ⟨((fun k => match k with | 0 => c0 | 1 => c1 | 2 => c2 | 3 => c3 | 4 => c4 | 5 => c5 | 6 => c6 | 7 => c7 | 8 => c8 | _ => 0, fun k => match k with | 0 => i0 | 1 => i1 | 2 => i2 | 3 => i3 | 4 => i4 | 5 => i5 | 6 => i6 | 7 => i7 | 8 => i8 | _ => fun _ => 0), fun k => match k with | 0 => a0 | 2 => a2 | _ => 0), ⟨?_, ?_⟩, ?_⟩
  · intro k q hq
    match k, hq with
    | 0, hq => cases hq; exact hk0
    | 1, hq => cases hq; exact hk1
    | 2, hq => cases hq; exact hk2
    | 3, hq => cases hq; exact hk3
    | 4, hq => cases hq; exact hk4
    | 5, hq => cases hq; exact hk5
    | 6, hq => cases hq; exact hk6
    | 7, hq => cases hq; exact hk7
    | 8, hq => cases hq; exact hk8
    | k + 9, hq => simp [vwCl] at hq
  · intro k q hq
    match k, hq with
    | 0, hq => cases hq; exact ha0
    | 1, hq => cases hq; exact ha0
    | 2, hq => cases hq; exact ha2
    | 3, hq => cases hq; exact ha0
    | k + 4, hq => simp [zty] at hq
  · exact ⟨va_Nw.of rfl (hts (.methodLinkNest RX9 25 yX3_init RX9) (by decide +kernel)), va_Nw.of rfl (hts (.methodLinkNest RX9 25 yX3_init RX9) (by decide +kernel)), va_Nw.of rfl (hts (.methodLinkNest RX9 35 yX7_init RX9) (by decide +kernel)), va_Nw.of rfl (hts (.methodLinkNest RX9 9 yX5_init RX9) (by decide +kernel)), va_Nw.of rfl (hts (.methodLinkNest RX2 21 yX9_copyRow RX9) (by decide +kernel)), va_Nw.of rfl (hts (.methodLinkNest RX2 29 yX9_moveUp RX9) (by decide +kernel)), va_Nw.of rfl (hts (.methodLinkNest RX2 33 yX9_elementOf RX9) (by decide +kernel)), va_Nw.of rfl (hts (.methodLinkNest RX3 9 yX5_init RX9) (by decide +kernel)), va_Nw.of rfl (hts (.methodLinkNest RX4 17 yX5_init RX9) (by decide +kernel)), va_Nw.of rfl (hts (.methodLinkNest RX5 20 yX1_init RX9) (by decide +kernel)), va_Nw.of rfl (hts (.methodLinkNest RX5 27 yX8_init RX9) (by decide +kernel)), va_Nw.of rfl (hts (.methodLinkNest RX5 34 yX2_init RX9) (by decide +kernel)), va_Nw.of rfl (hts (.methodLinkNest RX8 19 yX9_copyRow RX9) (by decide +kernel)), va_Nw.of rfl (hts (.methodLinkNest RX8 41 yX9_moveUp RX9) (by decide +kernel)), va_Nw.of rfl (hts (.methodLinkNest RX8 53 yX9_elementOf RX9) (by decide +kernel)), va_AO.of (hts (.arrayOver (.object RX5)) (by decide +kernel))⟩
set_option maxHeartbeats 4000000 in
set_option maxRecDepth 100000 in
theorem z_texts {A : Array Value} {s : State} (hts : ∀ w ∈ lw_tbl, w.before A s = true) (hc : ∃ cur, s.vm.findClass RX9 = some cur) : ∃ sa : Nat → Nat, zT sa s := by
  obtain ⟨s0, hs0⟩ := z_str (hts (.stringRef RX9 212 "no state is saved") (by decide +kernel)) hc
  obtain ⟨s1, hs1⟩ := z_str (hts (.stringRef RX9 212 "no state is saved") (by decide +kernel)) hc
  obtain ⟨s2, hs2⟩ := z_str (hts (.stringRef RX9 212 "no state is saved") (by decide +kernel)) hc
  obtain ⟨s3, hs3⟩ := z_str (hts (.stringRef RX9 230 "the memory is empty") (by decide +kernel)) hc
  obtain ⟨s4, hs4⟩ := z_str (hts (.stringRef RX9 245 "out of range") (by decide +kernel)) hc
  obtain ⟨s5, hs5⟩ := z_str (hts (.stringRef RX9 249 "there is no such mark") (by decide +kernel)) hc
  exact ⟨fun k => match k with | 0 => s0 | 1 => s1 | 2 => s2 | 3 => s3 | 4 => s4 | 5 => s5 | _ => 0, va_Nw.of rfl (hts (.declares (Bundle.initS "java/lang/RuntimeException")) (by decide +kernel)), va_Nw.of rfl (hts (.declares (Bundle.initS "java/lang/Exception")) (by decide +kernel)), va_Nw.of rfl (hts (.declares (Bundle.initS "java/lang/Throwable")) (by decide +kernel)),
    va_Nw.of rfl (hts (.castable zIA zIA) (by decide +kernel)), va_Nw.of rfl (hts (.castable zIS zIS) (by decide +kernel)), va_Nw.of rfl (hts (.castable zIO zIO) (by decide +kernel)), hs0, hs1, hs2, hs3, hs4, hs5⟩
set_option maxHeartbeats 4000000 in
set_option maxRecDepth 100000 in
/-- YOUR PART: from the entry, for every script of at most 260 ints, the law comes to its end with true -/
theorem whole_start {p : Program} {e : Env} {s : State} {m : MethodId} {below : List Frame} {meth : Method} {c : Code} (l : Launch) (hflags : l.flags = flags0) {b L : Nat} {xs : Nat → Int32} (hL : L ≤ 260) (C0 : lw_At p s m meth c b L xs) : W p l e room_1 s m #[Value.ref b] below meth c s.heap [] 0 0 (lw_Z below #[Value.ref b] s) (entryFrame m ([Value.ref b] : List Value).toArray 12) := by
  obtain ⟨hx, hb, hr, hml, hown, htsT, hX, hbl, hlocks, hgv⟩ := C0
  have hl0 : l.stackTraces = false := by
    unfold Launch.stackTraces
    rw [hflags]
    decide +kernel
  have hb : c.code = cL_law := hb
  obtain ⟨A, eA⟩ : ∃ A : Nat → Prop, A = (fun q => s.heap.size ≤ q) := ⟨_, rfl⟩
  have hA : ∀ q : Nat, s.heap.size ≤ q → A q := by rw [eA]; exact fun _ h => h
  have hbA : ¬ A b := by rw [eA]; exact Nat.not_le.mpr hbl
  obtain ⟨E, hK⟩ := z_known htsT
  obtain ⟨sa, hT⟩ := z_texts htsT ⟨_, (hK.1.1 8 _ rfl).2.1⟩
  have hts : ∀ w ∈ wsL_law, w.before #[Value.ref b] s = true := fun w hw => htsT w (wsL_law_in w hw)
  have hg := flat_of_before _ hgv
  have hZA : ∀ a : Nat, a < s.heap.size → ¬ A a := by rw [eA]; exact fun a h => Nat.not_le.mpr h
  have hZ : zZ A s s.heap := ⟨vx_Zqof (htsT (.laysStatic Bundle.tN "UNASSIGNED_STACK" Bundle.steD) (by decide +kernel)) (htsT (.initialized Bundle.tN) (by decide +kernel)) (hg (.isRef (.static Bundle.tN "UNASSIGNED_STACK" Bundle.steD)) (by decide +kernel)) hZA, vx_Zqof (htsT (.laysStatic Bundle.tN "SUPPRESSED_SENTINEL" Bundle.listD) (by decide +kernel)) (htsT (.initialized Bundle.tN) (by decide +kernel)) (hg (.isRef (.static Bundle.tN "SUPPRESSED_SENTINEL" Bundle.listD)) (by decide +kernel)) hZA⟩
  have C : z_LC p s m c b L xs E sa A := ⟨hx, hb, hown, hml, hts, hX, hbl, hK, hT, hZ, hL, hA, hbA⟩
  have hi_X9 : ∀ w ∈ wsX90, w ∈ wsL_law := inlX9
  have alt0 : m_std (m_g0 0) - m_std (m_g0 1) = 0 := Int32.sub_self _
  obtain ⟨H, eH⟩ : ∃ H, H = s.heap := ⟨_, rfl⟩
  have hS : va_S A s.heap H [] := by rw [eH]; exact va_S.rf
  have hP : va_P E.1 vwCl ([] : List va_W).flatten H := fun k q h => by simp at h
  have hD : va_D A ([] : List va_W).flatten := ⟨fun i j p q h => by simp at h, fun k q h => by simp at h⟩
  have hl := lv_entry ([.ref b]) (n := 12) (Nat.le_of_ble_eq_true rfl)
  rw [lg_entry_eq, ← eH]
  clear eH
  generalize (lg_sl ([.ref b]) ++ List.replicate (12 - (lg_sl ([.ref b])).length) Slot.unset).toArray = ls at hl ⊢
  have hl : lv_has ls 12 [(0, .ref b)] := hl
  refine va_new (D := E.1) (ci := 8) (fs := [.null, .null, .null, .null, .null]) (C := RX9) (T := TX9) (N := 5) hx hb hts hi_X9 tyX9 tyX9_ok hown (hts (.classLink RL 16 RX9) (by decide +kernel)) (hts (.instantiable RX9 5) (by decide +kernel)) (hts (.initialized RX9) (by decide +kernel)) hK.1 hP hD hS hA rfl (fun j hj => by rcases (show j = 0 ∨ j = 1 ∨ j = 2 ∨ j = 3 ∨ j = 4 by omega) with rfl | rfl | rfl | rfl | rfl <;> rfl) (Nat.le_of_ble_eq_true rfl) (Nat.le_of_ble_eq_true rfl) dL_law_0 (fun q_0 H hP hD hS => ?_)
  have hP : va_P E.1 vwCl ([[(q_0, .inr (8, [.null, .null, .null, .null, .null]))]] : List va_W).flatten H := hP
  have hD : va_D A ([[(q_0, .inr (8, [.null, .null, .null, .null, .null]))]] : List va_W).flatten := hD
  refine W.widen (k := 1) (n := 5) (by decide) (by decide) ?_
  refine lv_dup hx hb dL_law_3 rfl ?_
  have hPc : va_P E.1 vwCl ([[(q_0, .inr (8, [.null, .null, .null, .null, .null]))]] : List va_W).flatten H := zf_sub hP [0] rfl
  have hDc : va_D A ([[(q_0, .inr (8, [.null, .null, .null, .null, .null]))]] : List va_W).flatten := zf_subD hD [0] (by decide) rfl
  refine z_mutx (Sc := [[(q_0, .inr (8, [.null, .null, .null, .null, .null]))]]) (Sr := []) (va_runI (As := []) (rest := [.ref q_0]) ⟨hx, hb, hml, hown, hts⟩ (c_X9_init2 l E q_0 H.size) (cwI 0 hts gL_law_X9_init rfl rfl rfl (hts (.initialized RX9) (by decide +kernel)) (hts (.methodLink RL 143 yX9_init) (by decide +kernel)) (hts (.instanceMethod yX9_init) (by decide +kernel)) rfl (by decide +kernel) ⟨Nat.le_of_ble_eq_true rfl, Nat.le_of_ble_eq_true rfl⟩) ⟨zP.blind, z_pre hK hPc hDc⟩ rfl rfl hl.1 rfl (lv_room (Nat.le_of_ble_eq_true rfl)) dL_law_4 ⟨Nat.le_of_ble_eq_true rfl, Nat.le_of_ble_eq_true rfl⟩) hP hD hS hA [0] [] rfl rfl (by decide) (by decide) (fun u H locs hP hD hS => ?_)
  obtain ⟨u1, na, ma, mb, ad⟩ := u
  have hP : va_P E.1 vwCl ([(z_W E (z_xa q_0 (u1 1) (u1 2) (u1 3) (u1 4) (u1 5) (u1 6)) na ma mb ad (fun _ => 0) 0 0 0 0 0 m_g0 m_g0 m_g0 (fun _ => m_g0)).flatten] : List va_W).flatten H := hP
  have hD : va_D A ([(z_W E (z_xa q_0 (u1 1) (u1 2) (u1 3) (u1 4) (u1 5) (u1 6)) na ma mb ad (fun _ => 0) 0 0 0 0 0 m_g0 m_g0 m_g0 (fun _ => m_g0)).flatten] : List va_W).flatten := hD
  refine W.widen (k := 79) (n := 1097) (by decide) (by decide) ?_
  obtain ⟨xa, exa⟩ : ∃ z : Nat → Nat, z = (z_xa q_0 (u1 1) (u1 2) (u1 3) (u1 4) (u1 5) (u1 6)) := ⟨_, rfl⟩
  have eq0 : q_0 = xa 0 := by rw [exa]; rfl
  subst eq0
  have hP : va_P E.1 vwCl ([(z_W E xa na ma mb ad (fun _ => 0) 0 0 0 0 0 m_g0 m_g0 m_g0 (fun _ => m_g0)).flatten] : List va_W).flatten H := by rw [exa]; exact hP
  have hD : va_D A ([(z_W E xa na ma mb ad (fun _ => 0) 0 0 0 0 0 m_g0 m_g0 m_g0 (fun _ => m_g0)).flatten] : List va_W).flatten := by rw [exa]; exact hD
  refine W.eq (g2 := F0 m 7 ls [.ref (xa 0)]) rfl ?_
  refine lv_astore_n (lv' := [(1, .ref (xa 0)), (0, .ref b)]) hx hb dL_law_7 rfl hl (by decide) rfl (fun ls hl => ?_)
  refine lv_aload_n hx hb dL_law_8 rfl (lv_at hl 0 rfl) ?_
  refine lv_iconst (v := 0) hx hb dL_law_9 (by decide) ?_
  have ph_10 : (0 : Int32) ≤ 0 ∧ (0 : Int32) ≤ 1 := ⟨by decide, by decide⟩
  have hPc : va_P E.1 vwCl ([(z_W E xa na ma mb ad (fun _ => 0) 0 0 0 0 0 m_g0 m_g0 m_g0 (fun _ => m_g0)).flatten] : List va_W).flatten H := zf_sub hP [0] rfl
  have hDc : va_D A ([(z_W E xa na ma mb ad (fun _ => 0) 0 0 0 0 0 m_g0 m_g0 m_g0 (fun _ => m_g0)).flatten] : List va_W).flatten := zf_subD hD [0] (by decide) rfl
  refine z_xmut (Sc := [(z_W E xa na ma mb ad (fun _ => 0) 0 0 0 0 0 m_g0 m_g0 m_g0 (fun _ => m_g0)).flatten]) (Sr := []) (W1 := [(z_W E xa na ma mb ad (fun _ => 0) 0 0 0 1 0 m_g0 m_g0 m_g0 (fun _ => m_g0)).flatten]) (vx_runV (As := [.int 0]) (rest := []) ⟨hx, hb, hml, hown, hts⟩ (c_X9_store0 l E sa hl0 xa na ma mb ad (fun _ => 0) 0 0 0 0 0 m_g0 m_g0 m_g0 (fun _ => m_g0) z_wk0 H.size) (cwV 1 hts gL_law_X9_store rfl rfl rfl (by decide +kernel) ⟨Nat.le_of_ble_eq_true rfl, Nat.le_of_ble_eq_true rfl⟩) ⟨zPE.blind, va_recv hK.1 hPc (ci := 8) (q0 := 0) rfl rfl, z_preE hK hT hZ hS (zf_free hD hS hA [0] rfl) hPc hDc⟩ rfl rfl hl.1 rfl (lv_room (Nat.le_of_ble_eq_true rfl)) dL_law_10 ⟨Nat.le_of_ble_eq_true rfl, Nat.le_of_ble_eq_true rfl⟩) hP hD hS hA [0] [] rfl rfl (by decide) (by decide) (fun Ex ce q9 H locs hps hP hD hS hce hcv hcl => ?_) (fun H locs _ hP hD hS => ?_)
  · exact (absurd ph_10 hps.2)
  have hP : va_P E.1 vwCl ([(z_W E xa na ma mb ad (fun _ => 0) 0 0 0 1 0 m_g0 m_g0 m_g0 (fun _ => m_g0)).flatten] : List va_W).flatten H := hP
  have hD : va_D A ([(z_W E xa na ma mb ad (fun _ => 0) 0 0 0 1 0 m_g0 m_g0 m_g0 (fun _ => m_g0)).flatten] : List va_W).flatten := hD
  refine W.widen (k := 80) (n := 1103) (by decide) (by decide) ?_
  refine W.eq (g2 := F0 m 13 ls [.int (m_std (m_g0 0) - m_std (m_g0 1))]) rfl ?_
  have hw_1 : z_wk 0 0 0 1 0 m_g0 m_g0 m_g0 (fun _ => m_g0) := z_wk_st0 z_wk0
  refine lv_if_ne (tgt := 29) hx hb dL_law_13 (by decide) (fun h9 => absurd (alt0) h9) (fun _ => ?_)
  refine lv_aload_n hx hb dL_law_16 rfl (lv_at hl 1 rfl) ?_
  refine lv_bipush (v := 70) hx hb dL_law_17 (by decide) ?_
  refine z_topi (y := nI 70) rfl ?_
  refine z_xmut (Sc := []) (Sr := [(z_W E xa na ma mb ad (fun _ => 0) 0 0 0 1 0 m_g0 m_g0 m_g0 (fun _ => m_g0)).flatten]) (W1 := []) (vx_runS (As := [.ref b, .int (nI 70)]) (rest := []) ⟨hx, hb, hml, hown, hts⟩ (c_L_isClimbing l E sa hl0 (fr := 70) (xs := xs) hL (by decide) H.size) (va_cwS 2 hts gL_law_L_isClimbing rfl rfl rfl (by decide +kernel) ⟨Nat.le_of_ble_eq_true rfl, Nat.le_of_ble_eq_true rfl⟩) ⟨zPS.blind, z_preS hK hT hZ hS (zf_free hD hS hA [] rfl) hX hbl hbA⟩ rfl rfl hl.1 rfl (lv_room (Nat.le_of_ble_eq_true rfl)) dL_law_19 ⟨Nat.le_of_ble_eq_true rfl, Nat.le_of_ble_eq_true rfl⟩) hP hD hS hA [] [0] rfl rfl (by decide) (by decide) (fun Ex ce q9 H locs hps hP hD hS hce hcv hcl => hps.elim) (fun H locs _ hP hD hS => ?_)
  have hP : va_P E.1 vwCl ([(z_W E xa na ma mb ad (fun _ => 0) 0 0 0 1 0 m_g0 m_g0 m_g0 (fun _ => m_g0)).flatten] : List va_W).flatten H := hP
  have hD : va_D A ([(z_W E xa na ma mb ad (fun _ => 0) 0 0 0 1 0 m_g0 m_g0 m_g0 (fun _ => m_g0)).flatten] : List va_W).flatten := hD
  refine W.widen (k := 223) (n := 2566) (by decide) (by decide) ?_
  refine W.eq (g2 := F0 m 22 ls [.int 1]) rfl ?_
  refine lv_if_eq (tgt := 29) hx hb dL_law_22 (by decide) (fun h9 => absurd h9 ((by decide))) (fun _ => ?_)
  refine lv_iconst (v := 1) hx hb dL_law_25 (by decide) ?_
  refine lv_goto (tgt := 30) hx hb dL_law_26 (by decide) ?_
  refine lv_istore_n (lv' := [(2, .int 1), (1, .ref (xa 0)), (0, .ref b)]) hx hb dL_law_30 rfl hl (by decide) rfl (fun ls hl => ?_)
  refine lv_iconst (v := 0) hx hb dL_law_31 (by decide) ?_
  refine lv_istore_n (lv' := [(3, .int 0), (2, .int 1), (1, .ref (xa 0)), (0, .ref b)]) hx hb dL_law_32 rfl hl (by decide) rfl (fun ls hl => ?_)
  refine W.widen (k := (139 * 0 + 223)) (n := (830 * 0 + 2566)) (by decide) (by decide) ?_
  subst eA
  exact law_loop sa hl0 hr hlocks C 35 0 (by decide) (by decide) _ _ _ _ _ _ _ H locs ls hw_1 z_g0 z_g0 hP hD hS (lv_sub hl [3, 2, 1, 0] rfl)
