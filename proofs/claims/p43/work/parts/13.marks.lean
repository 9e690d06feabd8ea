set_option maxHeartbeats 4000000 in
set_option maxRecDepth 100000 in
theorem c_X2_init (l : Launch) (E : zE) (h0 : Nat) (c0 : Int32) : zX l yX2_init wsX2_init ({ frames := 1, cells := 3, slots := 30, locals := 20 }) E [.ref h0] ([[(h0, .inr (1, [.null, .null, .null, .int c0]))]] : List va_W).flatten none (fun u : Nat × Nat × Nat => ([[(h0, .inr (1, [.ref u.1, .ref u.2.1, .ref u.2.2, .int c0]))], [(u.1, .inl (E.2 0, 10, .inl (fun _ => 0)))], [(u.2.1, .inl (E.2 0, 10, .inl (fun _ => 0)))], [(u.2.2, .inl (E.2 0, 10, .inl (fun _ => 0)))]] : List va_W).flatten) 3 30 := by
  refine z_startx (cc := cX2_init) (maxL := 1) (ret := none) (by decide) rfl (Nat.le_of_ble_eq_true rfl) ?_
  intro Pg En s Mi below meth Cd A hx hb hr hts hown hlocks hin hml hA H hH hP hK hD hS ls hl
  have hl : lv_has ls 1 [(0, .ref h0)] := hl
  have hi_X2 : ∀ w ∈ wsX20, w ∈ wsX2_init := by decide +kernel
  refine lv_aload_n hx hb dX2_init_0 rfl (lv_at hl 0 rfl) ?_
  refine W.objInit hx hb hown (hts (.methodLink RX2 3 objectInit) (by decide +kernel)) (hts (.instanceMethod objectInit) (by decide +kernel)) (hts (.code objectInit ⟨#[0xb1]⟩ 1 none) (by decide +kernel)) rfl (by rw [hml]; exact hl.1) rfl dX2_init_1 (Nat.le_of_ble_eq_true rfl) (Nat.le_of_ble_eq_true rfl) ?_
  refine W.eq (g2 := F0 Mi 4 ls []) rfl ?_
  refine lv_aload_n hx hb dX2_init_4 rfl (lv_at hl 0 rfl) ?_
  refine lv_bipush (v := 10) hx hb dX2_init_5 (by decide) ?_
  refine va_newa (D := E.1) (atype := .int) (ty := .int) (N' := 10) (a0 := (10, .inl (fun _ => 0))) hx hb (hts (.arrayClass .int) (by decide +kernel)) rfl hK.1 hP hD hS hA (fun _ => rfl) (by decide) (by decide +kernel) (by decide +kernel) (Nat.le_of_ble_eq_true rfl) (Nat.le_of_ble_eq_true rfl) dX2_init_7 (fun q_7 cA H hK9 hP hD hS => ?_)
  have eA := z_cy0 hK9
  subst eA
  have hP : va_P E.1 vwCl ([[(h0, .inr (1, [.null, .null, .null, .int c0]))], [(q_7, .inl (E.2 0, 10, .inl (fun _ => 0)))]] : List va_W).flatten H := hP
  have hD : va_D A ([[(h0, .inr (1, [.null, .null, .null, .int c0]))], [(q_7, .inl (E.2 0, 10, .inl (fun _ => 0)))]] : List va_W).flatten := hD
  refine W.widen (k := 1) (n := 10) (by decide) (by decide) ?_
  refine va_putF (D := E.1) (ci := 1) (v := .ref q_7) (ty := .array .int) (C := RX2) (T := TX2) (N := 4) hx hb hts hi_X2 tyX2 tyX2_ok nmX2 hown hK.1 hP hD hS 0 rfl rfl 0 (by decide) (hts (.fieldLink RX2 9 "AltimeterWatch$Marks" "times" "[I") (by decide +kernel)) (fun _ h9 => h9) rfl hin rfl (by decide +kernel) rfl rfl (Nat.le_of_ble_eq_true rfl) dX2_init_9 (fun H locs hP hD hS => ?_)
  have hP : va_P E.1 vwCl ([[(h0, .inr (1, [.ref q_7, .null, .null, .int c0]))], [(q_7, .inl (E.2 0, 10, .inl (fun _ => 0)))]] : List va_W).flatten H := hP
  have hD : va_D A ([[(h0, .inr (1, [.ref q_7, .null, .null, .int c0]))], [(q_7, .inl (E.2 0, 10, .inl (fun _ => 0)))]] : List va_W).flatten := hD
  refine lv_aload_n hx hb dX2_init_12 rfl (lv_at hl 0 rfl) ?_
  refine lv_bipush (v := 10) hx hb dX2_init_13 (by decide) ?_
  refine va_newa (D := E.1) (atype := .int) (ty := .int) (N' := 10) (a0 := (10, .inl (fun _ => 0))) hx hb (hts (.arrayClass .int) (by decide +kernel)) rfl hK.1 hP hD hS hA (fun _ => rfl) (by decide) (by decide +kernel) (by decide +kernel) (Nat.le_of_ble_eq_true rfl) (Nat.le_of_ble_eq_true rfl) dX2_init_15 (fun q_15 cA H hK9 hP hD hS => ?_)
  have eA := z_cy0 hK9
  subst eA
  have hP : va_P E.1 vwCl ([[(h0, .inr (1, [.ref q_7, .null, .null, .int c0]))], [(q_7, .inl (E.2 0, 10, .inl (fun _ => 0)))], [(q_15, .inl (E.2 0, 10, .inl (fun _ => 0)))]] : List va_W).flatten H := hP
  have hD : va_D A ([[(h0, .inr (1, [.ref q_7, .null, .null, .int c0]))], [(q_7, .inl (E.2 0, 10, .inl (fun _ => 0)))], [(q_15, .inl (E.2 0, 10, .inl (fun _ => 0)))]] : List va_W).flatten := hD
  refine W.widen (k := 2) (n := 20) (by decide) (by decide) ?_
  refine va_putF (D := E.1) (ci := 1) (v := .ref q_15) (ty := .array .int) (C := RX2) (T := TX2) (N := 4) hx hb hts hi_X2 tyX2 tyX2_ok nmX2 hown hK.1 hP hD hS 0 rfl rfl 1 (by decide) (hts (.fieldLink RX2 15 "AltimeterWatch$Marks" "heights" "[I") (by decide +kernel)) (fun _ h9 => h9) rfl hin rfl (by decide +kernel) rfl rfl (Nat.le_of_ble_eq_true rfl) dX2_init_17 (fun H locs hP hD hS => ?_)
  have hP : va_P E.1 vwCl ([[(h0, .inr (1, [.ref q_7, .ref q_15, .null, .int c0]))], [(q_7, .inl (E.2 0, 10, .inl (fun _ => 0)))], [(q_15, .inl (E.2 0, 10, .inl (fun _ => 0)))]] : List va_W).flatten H := hP
  have hD : va_D A ([[(h0, .inr (1, [.ref q_7, .ref q_15, .null, .int c0]))], [(q_7, .inl (E.2 0, 10, .inl (fun _ => 0)))], [(q_15, .inl (E.2 0, 10, .inl (fun _ => 0)))]] : List va_W).flatten := hD
  refine lv_aload_n hx hb dX2_init_20 rfl (lv_at hl 0 rfl) ?_
  refine lv_bipush (v := 10) hx hb dX2_init_21 (by decide) ?_
  refine va_newa (D := E.1) (atype := .int) (ty := .int) (N' := 10) (a0 := (10, .inl (fun _ => 0))) hx hb (hts (.arrayClass .int) (by decide +kernel)) rfl hK.1 hP hD hS hA (fun _ => rfl) (by decide) (by decide +kernel) (by decide +kernel) (Nat.le_of_ble_eq_true rfl) (Nat.le_of_ble_eq_true rfl) dX2_init_23 (fun q_23 cA H hK9 hP hD hS => ?_)
  have eA := z_cy0 hK9
  subst eA
  have hP : va_P E.1 vwCl ([[(h0, .inr (1, [.ref q_7, .ref q_15, .null, .int c0]))], [(q_7, .inl (E.2 0, 10, .inl (fun _ => 0)))], [(q_15, .inl (E.2 0, 10, .inl (fun _ => 0)))], [(q_23, .inl (E.2 0, 10, .inl (fun _ => 0)))]] : List va_W).flatten H := hP
  have hD : va_D A ([[(h0, .inr (1, [.ref q_7, .ref q_15, .null, .int c0]))], [(q_7, .inl (E.2 0, 10, .inl (fun _ => 0)))], [(q_15, .inl (E.2 0, 10, .inl (fun _ => 0)))], [(q_23, .inl (E.2 0, 10, .inl (fun _ => 0)))]] : List va_W).flatten := hD
  refine W.widen (k := 3) (n := 30) (by decide) (by decide) ?_
  refine va_putF (D := E.1) (ci := 1) (v := .ref q_23) (ty := .array .int) (C := RX2) (T := TX2) (N := 4) hx hb hts hi_X2 tyX2 tyX2_ok nmX2 hown hK.1 hP hD hS 0 rfl rfl 2 (by decide) (hts (.fieldLink RX2 18 "AltimeterWatch$Marks" "ascents" "[I") (by decide +kernel)) (fun _ h9 => h9) rfl hin rfl (by decide +kernel) rfl rfl (Nat.le_of_ble_eq_true rfl) dX2_init_25 (fun H locs hP hD hS => ?_)
  have hP : va_P E.1 vwCl ([[(h0, .inr (1, [.ref q_7, .ref q_15, .ref q_23, .int c0]))], [(q_7, .inl (E.2 0, 10, .inl (fun _ => 0)))], [(q_15, .inl (E.2 0, 10, .inl (fun _ => 0)))], [(q_23, .inl (E.2 0, 10, .inl (fun _ => 0)))]] : List va_W).flatten H := hP
  have hD : va_D A ([[(h0, .inr (1, [.ref q_7, .ref q_15, .ref q_23, .int c0]))], [(q_7, .inl (E.2 0, 10, .inl (fun _ => 0)))], [(q_15, .inl (E.2 0, 10, .inl (fun _ => 0)))], [(q_23, .inl (E.2 0, 10, .inl (fun _ => 0)))]] : List va_W).flatten := hD
  have hP : va_P E.1 vwCl ([[(h0, .inr (1, [.ref q_7, .ref q_15, .ref q_23, .int c0]))], [(q_7, .inl (E.2 0, 10, .inl (fun _ => 0)))], [(q_15, .inl (E.2 0, 10, .inl (fun _ => 0)))], [(q_23, .inl (E.2 0, 10, .inl (fun _ => 0)))]] : List va_W).flatten H := zf_sub hP [0, 1, 2, 3] rfl
  have hD : va_D A ([[(h0, .inr (1, [.ref q_7, .ref q_15, .ref q_23, .int c0]))], [(q_7, .inl (E.2 0, 10, .inl (fun _ => 0)))], [(q_15, .inl (E.2 0, 10, .inl (fun _ => 0)))], [(q_23, .inl (E.2 0, 10, .inl (fun _ => 0)))]] : List va_W).flatten := zf_subD hD [0, 1, 2, 3] (by decide) rfl
  exact W.vret hx hb hr (z_endx (w1 := (fun u : Nat × Nat × Nat => ([[(h0, .inr (1, [.ref u.1, .ref u.2.1, .ref u.2.2, .int c0]))], [(u.1, .inl (E.2 0, 10, .inl (fun _ => 0)))], [(u.2.1, .inl (E.2 0, 10, .inl (fun _ => 0)))], [(u.2.2, .inl (E.2 0, 10, .inl (fun _ => 0)))]] : List va_W).flatten)) (q_7, q_15, q_23) hP hD hS rfl) hS.2.2 dX2_init_28 hlocks

set_option maxHeartbeats 4000000 in
set_option maxRecDepth 100000 in
theorem c_X2_copyFrom (l : Launch) (E : zE) (h0 a0 b0 d0 h1 a1 b1 d1 : Nat) (c0 c1 : Int32) (f0 g0 k0 f1 g1 k1 : Nat → Int32) : zM l yX2_copyFrom wsX2_copyFrom ({ frames := 2, cells := 0, slots := 0, locals := 47 }) E [.ref h0, .ref h1] ([[(h0, .inr (1, [.ref a0, .ref b0, .ref d0, .int c0]))], [(a0, .inl (E.2 0, 10, .inl f0))], [(b0, .inl (E.2 0, 10, .inl g0))], [(d0, .inl (E.2 0, 10, .inl k0))], [(h1, .inr (1, [.ref a1, .ref b1, .ref d1, .int c1]))], [(a1, .inl (E.2 0, 10, .inl f1))], [(b1, .inl (E.2 0, 10, .inl g1))], [(d1, .inl (E.2 0, 10, .inl k1))]] : List va_W).flatten none ([[(h0, .inr (1, [.ref a0, .ref b0, .ref d0, .int c1]))], [(a0, .inl (E.2 0, 10, .inl (m_cp 10 f1 f0)))], [(b0, .inl (E.2 0, 10, .inl (m_cp 10 g1 g0)))], [(d0, .inl (E.2 0, 10, .inl (m_cp 10 k1 k0)))], [(h1, .inr (1, [.ref a1, .ref b1, .ref d1, .int c1]))], [(a1, .inl (E.2 0, 10, .inl f1))], [(b1, .inl (E.2 0, 10, .inl g1))], [(d1, .inl (E.2 0, 10, .inl k1))]] : List va_W).flatten 0 0 := by
  refine z_start (cc := cX2_copyFrom) (maxL := 2) (ret := none) (by decide) rfl (Nat.le_of_ble_eq_true rfl) ?_
  intro Pg En s Mi below meth Cd A hx hb hr hts hown hlocks hin hml hA H hH hP hK hD hS ls hl
  have hl : lv_has ls 2 [(0, .ref h0), (1, .ref h1)] := hl
  have hi_X2 : ∀ w ∈ wsX20, w ∈ wsX2_copyFrom := by decide +kernel
  refine lv_aload_n hx hb dX2_copyFrom_0 rfl (lv_at hl 1 rfl) ?_
  refine va_get (D := E.1) (ci := 1) (v := .ref a1) (C := RX2) (T := TX2) (N := 4) hx hb hts hi_X2 hown hK.1 hP 4 rfl rfl 0 (by decide) (hts (.fieldLink RX2 9 "AltimeterWatch$Marks" "times" "[I") (by decide +kernel)) (fun _ h9 => h9) rfl dX2_copyFrom_1 ?_
  refine lv_aload_n hx hb dX2_copyFrom_4 rfl (lv_at hl 0 rfl) ?_
  refine va_get (D := E.1) (ci := 1) (v := .ref a0) (C := RX2) (T := TX2) (N := 4) hx hb hts hi_X2 hown hK.1 hP 0 rfl rfl 0 (by decide) (hts (.fieldLink RX2 9 "AltimeterWatch$Marks" "times" "[I") (by decide +kernel)) (fun _ h9 => h9) rfl dX2_copyFrom_5 ?_
  have hPc : va_P E.1 vwCl ([[(a1, .inl (E.2 0, 10, .inl f1))], [(a0, .inl (E.2 0, 10, .inl f0))]] : List va_W).flatten H := zf_sub hP [5, 1] rfl
  have hDc : va_D A ([[(a1, .inl (E.2 0, 10, .inl f1))], [(a0, .inl (E.2 0, 10, .inl f0))]] : List va_W).flatten := zf_subD hD [5, 1] (by decide) rfl
  refine z_mut (Sc := [[(a1, .inl (E.2 0, 10, .inl f1))], [(a0, .inl (E.2 0, 10, .inl f0))]]) (Sr := [[(h0, .inr (1, [.ref a0, .ref b0, .ref d0, .int c0]))], [(b0, .inl (E.2 0, 10, .inl g0))], [(d0, .inl (E.2 0, 10, .inl k0))], [(h1, .inr (1, [.ref a1, .ref b1, .ref d1, .int c1]))], [(b1, .inl (E.2 0, 10, .inl g1))], [(d1, .inl (E.2 0, 10, .inl k1))]]) (W1 := [[(a1, .inl (E.2 0, 10, .inl f1))], [(a0, .inl (E.2 0, 10, .inl (m_cp 10 f1 f0)))]]) (va_runSN (As := [.ref a1, .ref a0]) (rest := []) ⟨hx, hb, hml, hown, hts⟩ (c_X9_copyRow l E a1 a0 10 f1 f0 (by decide) H.size) (⟨va_cnB 2 hts gX2_copyFrom_X9_copyRow_n21 rfl rfl rfl (hK.2.2.2.2.2.1) (hts (.initialized RX9) (by decide +kernel)) (by decide +kernel) ⟨Nat.le_of_ble_eq_true rfl, Nat.le_of_ble_eq_true rfl⟩, hts (.static yX9_copyRow) (by decide +kernel), trivial⟩) ⟨zP.blind, z_pre hK hPc hDc⟩ rfl rfl hl.1 rfl (lv_room (Nat.le_of_ble_eq_true rfl)) dX2_copyFrom_8 ⟨Nat.le_of_ble_eq_true rfl, Nat.le_of_ble_eq_true rfl⟩) hP hD hS hA [5, 1] [0, 2, 3, 4, 6, 7] rfl rfl (by decide) (by decide) (fun H locs hP hD hS => ?_)
  have hP : va_P E.1 vwCl ([[(h0, .inr (1, [.ref a0, .ref b0, .ref d0, .int c0]))], [(b0, .inl (E.2 0, 10, .inl g0))], [(d0, .inl (E.2 0, 10, .inl k0))], [(h1, .inr (1, [.ref a1, .ref b1, .ref d1, .int c1]))], [(b1, .inl (E.2 0, 10, .inl g1))], [(d1, .inl (E.2 0, 10, .inl k1))], [(a1, .inl (E.2 0, 10, .inl f1))], [(a0, .inl (E.2 0, 10, .inl (m_cp 10 f1 f0)))]] : List va_W).flatten H := hP
  have hD : va_D A ([[(h0, .inr (1, [.ref a0, .ref b0, .ref d0, .int c0]))], [(b0, .inl (E.2 0, 10, .inl g0))], [(d0, .inl (E.2 0, 10, .inl k0))], [(h1, .inr (1, [.ref a1, .ref b1, .ref d1, .int c1]))], [(b1, .inl (E.2 0, 10, .inl g1))], [(d1, .inl (E.2 0, 10, .inl k1))], [(a1, .inl (E.2 0, 10, .inl f1))], [(a0, .inl (E.2 0, 10, .inl (m_cp 10 f1 f0)))]] : List va_W).flatten := hD
  refine W.eq (g2 := F0 Mi 11 ls []) rfl ?_
  refine lv_aload_n hx hb dX2_copyFrom_11 rfl (lv_at hl 1 rfl) ?_
  refine va_get (D := E.1) (ci := 1) (v := .ref b1) (C := RX2) (T := TX2) (N := 4) hx hb hts hi_X2 hown hK.1 hP 3 rfl rfl 1 (by decide) (hts (.fieldLink RX2 15 "AltimeterWatch$Marks" "heights" "[I") (by decide +kernel)) (fun _ h9 => h9) rfl dX2_copyFrom_12 ?_
  refine lv_aload_n hx hb dX2_copyFrom_15 rfl (lv_at hl 0 rfl) ?_
  refine va_get (D := E.1) (ci := 1) (v := .ref b0) (C := RX2) (T := TX2) (N := 4) hx hb hts hi_X2 hown hK.1 hP 0 rfl rfl 1 (by decide) (hts (.fieldLink RX2 15 "AltimeterWatch$Marks" "heights" "[I") (by decide +kernel)) (fun _ h9 => h9) rfl dX2_copyFrom_16 ?_
  have hPc : va_P E.1 vwCl ([[(b1, .inl (E.2 0, 10, .inl g1))], [(b0, .inl (E.2 0, 10, .inl g0))]] : List va_W).flatten H := zf_sub hP [4, 1] rfl
  have hDc : va_D A ([[(b1, .inl (E.2 0, 10, .inl g1))], [(b0, .inl (E.2 0, 10, .inl g0))]] : List va_W).flatten := zf_subD hD [4, 1] (by decide) rfl
  refine z_mut (Sc := [[(b1, .inl (E.2 0, 10, .inl g1))], [(b0, .inl (E.2 0, 10, .inl g0))]]) (Sr := [[(h0, .inr (1, [.ref a0, .ref b0, .ref d0, .int c0]))], [(d0, .inl (E.2 0, 10, .inl k0))], [(h1, .inr (1, [.ref a1, .ref b1, .ref d1, .int c1]))], [(d1, .inl (E.2 0, 10, .inl k1))], [(a1, .inl (E.2 0, 10, .inl f1))], [(a0, .inl (E.2 0, 10, .inl (m_cp 10 f1 f0)))]]) (W1 := [[(b1, .inl (E.2 0, 10, .inl g1))], [(b0, .inl (E.2 0, 10, .inl (m_cp 10 g1 g0)))]]) (va_runSN (As := [.ref b1, .ref b0]) (rest := []) ⟨hx, hb, hml, hown, hts⟩ (c_X9_copyRow l E b1 b0 10 g1 g0 (by decide) H.size) (⟨va_cnB 2 hts gX2_copyFrom_X9_copyRow_n21 rfl rfl rfl (hK.2.2.2.2.2.1) (hts (.initialized RX9) (by decide +kernel)) (by decide +kernel) ⟨Nat.le_of_ble_eq_true rfl, Nat.le_of_ble_eq_true rfl⟩, hts (.static yX9_copyRow) (by decide +kernel), trivial⟩) ⟨zP.blind, z_pre hK hPc hDc⟩ rfl rfl hl.1 rfl (lv_room (Nat.le_of_ble_eq_true rfl)) dX2_copyFrom_19 ⟨Nat.le_of_ble_eq_true rfl, Nat.le_of_ble_eq_true rfl⟩) hP hD hS hA [4, 1] [0, 2, 3, 5, 6, 7] rfl rfl (by decide) (by decide) (fun H locs hP hD hS => ?_)
  have hP : va_P E.1 vwCl ([[(h0, .inr (1, [.ref a0, .ref b0, .ref d0, .int c0]))], [(d0, .inl (E.2 0, 10, .inl k0))], [(h1, .inr (1, [.ref a1, .ref b1, .ref d1, .int c1]))], [(d1, .inl (E.2 0, 10, .inl k1))], [(a1, .inl (E.2 0, 10, .inl f1))], [(a0, .inl (E.2 0, 10, .inl (m_cp 10 f1 f0)))], [(b1, .inl (E.2 0, 10, .inl g1))], [(b0, .inl (E.2 0, 10, .inl (m_cp 10 g1 g0)))]] : List va_W).flatten H := hP
  have hD : va_D A ([[(h0, .inr (1, [.ref a0, .ref b0, .ref d0, .int c0]))], [(d0, .inl (E.2 0, 10, .inl k0))], [(h1, .inr (1, [.ref a1, .ref b1, .ref d1, .int c1]))], [(d1, .inl (E.2 0, 10, .inl k1))], [(a1, .inl (E.2 0, 10, .inl f1))], [(a0, .inl (E.2 0, 10, .inl (m_cp 10 f1 f0)))], [(b1, .inl (E.2 0, 10, .inl g1))], [(b0, .inl (E.2 0, 10, .inl (m_cp 10 g1 g0)))]] : List va_W).flatten := hD
  refine W.eq (g2 := F0 Mi 22 ls []) rfl ?_
  refine lv_aload_n hx hb dX2_copyFrom_22 rfl (lv_at hl 1 rfl) ?_
  refine va_get (D := E.1) (ci := 1) (v := .ref d1) (C := RX2) (T := TX2) (N := 4) hx hb hts hi_X2 hown hK.1 hP 2 rfl rfl 2 (by decide) (hts (.fieldLink RX2 18 "AltimeterWatch$Marks" "ascents" "[I") (by decide +kernel)) (fun _ h9 => h9) rfl dX2_copyFrom_23 ?_
  refine lv_aload_n hx hb dX2_copyFrom_26 rfl (lv_at hl 0 rfl) ?_
  refine va_get (D := E.1) (ci := 1) (v := .ref d0) (C := RX2) (T := TX2) (N := 4) hx hb hts hi_X2 hown hK.1 hP 0 rfl rfl 2 (by decide) (hts (.fieldLink RX2 18 "AltimeterWatch$Marks" "ascents" "[I") (by decide +kernel)) (fun _ h9 => h9) rfl dX2_copyFrom_27 ?_
  have hPc : va_P E.1 vwCl ([[(d1, .inl (E.2 0, 10, .inl k1))], [(d0, .inl (E.2 0, 10, .inl k0))]] : List va_W).flatten H := zf_sub hP [3, 1] rfl
  have hDc : va_D A ([[(d1, .inl (E.2 0, 10, .inl k1))], [(d0, .inl (E.2 0, 10, .inl k0))]] : List va_W).flatten := zf_subD hD [3, 1] (by decide) rfl
  refine z_mut (Sc := [[(d1, .inl (E.2 0, 10, .inl k1))], [(d0, .inl (E.2 0, 10, .inl k0))]]) (Sr := [[(h0, .inr (1, [.ref a0, .ref b0, .ref d0, .int c0]))], [(h1, .inr (1, [.ref a1, .ref b1, .ref d1, .int c1]))], [(a1, .inl (E.2 0, 10, .inl f1))], [(a0, .inl (E.2 0, 10, .inl (m_cp 10 f1 f0)))], [(b1, .inl (E.2 0, 10, .inl g1))], [(b0, .inl (E.2 0, 10, .inl (m_cp 10 g1 g0)))]]) (W1 := [[(d1, .inl (E.2 0, 10, .inl k1))], [(d0, .inl (E.2 0, 10, .inl (m_cp 10 k1 k0)))]]) (va_runSN (As := [.ref d1, .ref d0]) (rest := []) ⟨hx, hb, hml, hown, hts⟩ (c_X9_copyRow l E d1 d0 10 k1 k0 (by decide) H.size) (⟨va_cnB 2 hts gX2_copyFrom_X9_copyRow_n21 rfl rfl rfl (hK.2.2.2.2.2.1) (hts (.initialized RX9) (by decide +kernel)) (by decide +kernel) ⟨Nat.le_of_ble_eq_true rfl, Nat.le_of_ble_eq_true rfl⟩, hts (.static yX9_copyRow) (by decide +kernel), trivial⟩) ⟨zP.blind, z_pre hK hPc hDc⟩ rfl rfl hl.1 rfl (lv_room (Nat.le_of_ble_eq_true rfl)) dX2_copyFrom_30 ⟨Nat.le_of_ble_eq_true rfl, Nat.le_of_ble_eq_true rfl⟩) hP hD hS hA [3, 1] [0, 2, 4, 5, 6, 7] rfl rfl (by decide) (by decide) (fun H locs hP hD hS => ?_)
  have hP : va_P E.1 vwCl ([[(h0, .inr (1, [.ref a0, .ref b0, .ref d0, .int c0]))], [(h1, .inr (1, [.ref a1, .ref b1, .ref d1, .int c1]))], [(a1, .inl (E.2 0, 10, .inl f1))], [(a0, .inl (E.2 0, 10, .inl (m_cp 10 f1 f0)))], [(b1, .inl (E.2 0, 10, .inl g1))], [(b0, .inl (E.2 0, 10, .inl (m_cp 10 g1 g0)))], [(d1, .inl (E.2 0, 10, .inl k1))], [(d0, .inl (E.2 0, 10, .inl (m_cp 10 k1 k0)))]] : List va_W).flatten H := hP
  have hD : va_D A ([[(h0, .inr (1, [.ref a0, .ref b0, .ref d0, .int c0]))], [(h1, .inr (1, [.ref a1, .ref b1, .ref d1, .int c1]))], [(a1, .inl (E.2 0, 10, .inl f1))], [(a0, .inl (E.2 0, 10, .inl (m_cp 10 f1 f0)))], [(b1, .inl (E.2 0, 10, .inl g1))], [(b0, .inl (E.2 0, 10, .inl (m_cp 10 g1 g0)))], [(d1, .inl (E.2 0, 10, .inl k1))], [(d0, .inl (E.2 0, 10, .inl (m_cp 10 k1 k0)))]] : List va_W).flatten := hD
  refine W.eq (g2 := F0 Mi 33 ls []) rfl ?_
  refine lv_aload_n hx hb dX2_copyFrom_33 rfl (lv_at hl 0 rfl) ?_
  refine lv_aload_n hx hb dX2_copyFrom_34 rfl (lv_at hl 1 rfl) ?_
  refine va_get (D := E.1) (ci := 1) (v := .int c1) (C := RX2) (T := TX2) (N := 4) hx hb hts hi_X2 hown hK.1 hP 1 rfl rfl 3 (by decide) (hts (.fieldLink RX2 25 "AltimeterWatch$Marks" "count" "I") (by decide +kernel)) (fun _ h9 => h9) rfl dX2_copyFrom_35 ?_
  refine va_put (D := E.1) (ci := 1) (v := .int c1) (ty := .int) (C := RX2) (T := TX2) (N := 4) hx hb hts hi_X2 tyX2 tyX2_ok nmX2 hown hK.1 hP hD hS 0 rfl rfl 3 (by decide) (hts (.fieldLink RX2 25 "AltimeterWatch$Marks" "count" "I") (by decide +kernel)) (fun _ h9 => h9) rfl (by decide +kernel) rfl rfl (Nat.le_of_ble_eq_true rfl) dX2_copyFrom_38 (fun H locs hP hD hS => ?_)
  have hP : va_P E.1 vwCl ([[(h0, .inr (1, [.ref a0, .ref b0, .ref d0, .int c1]))], [(h1, .inr (1, [.ref a1, .ref b1, .ref d1, .int c1]))], [(a1, .inl (E.2 0, 10, .inl f1))], [(a0, .inl (E.2 0, 10, .inl (m_cp 10 f1 f0)))], [(b1, .inl (E.2 0, 10, .inl g1))], [(b0, .inl (E.2 0, 10, .inl (m_cp 10 g1 g0)))], [(d1, .inl (E.2 0, 10, .inl k1))], [(d0, .inl (E.2 0, 10, .inl (m_cp 10 k1 k0)))]] : List va_W).flatten H := hP
  have hD : va_D A ([[(h0, .inr (1, [.ref a0, .ref b0, .ref d0, .int c1]))], [(h1, .inr (1, [.ref a1, .ref b1, .ref d1, .int c1]))], [(a1, .inl (E.2 0, 10, .inl f1))], [(a0, .inl (E.2 0, 10, .inl (m_cp 10 f1 f0)))], [(b1, .inl (E.2 0, 10, .inl g1))], [(b0, .inl (E.2 0, 10, .inl (m_cp 10 g1 g0)))], [(d1, .inl (E.2 0, 10, .inl k1))], [(d0, .inl (E.2 0, 10, .inl (m_cp 10 k1 k0)))]] : List va_W).flatten := hD
  have hP : va_P E.1 vwCl ([[(h0, .inr (1, [.ref a0, .ref b0, .ref d0, .int c1]))], [(a0, .inl (E.2 0, 10, .inl (m_cp 10 f1 f0)))], [(b0, .inl (E.2 0, 10, .inl (m_cp 10 g1 g0)))], [(d0, .inl (E.2 0, 10, .inl (m_cp 10 k1 k0)))], [(h1, .inr (1, [.ref a1, .ref b1, .ref d1, .int c1]))], [(a1, .inl (E.2 0, 10, .inl f1))], [(b1, .inl (E.2 0, 10, .inl g1))], [(d1, .inl (E.2 0, 10, .inl k1))]] : List va_W).flatten H := zf_sub hP [0, 3, 5, 7, 1, 2, 4, 6] rfl
  have hD : va_D A ([[(h0, .inr (1, [.ref a0, .ref b0, .ref d0, .int c1]))], [(a0, .inl (E.2 0, 10, .inl (m_cp 10 f1 f0)))], [(b0, .inl (E.2 0, 10, .inl (m_cp 10 g1 g0)))], [(d0, .inl (E.2 0, 10, .inl (m_cp 10 k1 k0)))], [(h1, .inr (1, [.ref a1, .ref b1, .ref d1, .int c1]))], [(a1, .inl (E.2 0, 10, .inl f1))], [(b1, .inl (E.2 0, 10, .inl g1))], [(d1, .inl (E.2 0, 10, .inl k1))]] : List va_W).flatten := zf_subD hD [0, 3, 5, 7, 1, 2, 4, 6] (by decide) rfl
  exact W.vret hx hb hr (z_end hP hD hS rfl) hS.2.2 dX2_copyFrom_41 hlocks

def m_kn (c : Int32) : Int32 := if c < 10 then c + 1 else 10
def m_kf (c : Int32) (f : Nat → Int32) (x : Int32) : Nat → Int32 := if c < 10 then upd f c.toNatClampNeg x else upd (m_up 10 f) 9 x

set_option maxHeartbeats 4000000 in
set_option maxRecDepth 100000 in
theorem c_X2_add (l : Launch) (E : zE) (h0 a0 b0 d0 cn : Nat) (c0 x y z : Int32) (f g k : Nat → Int32) (hc : c0 = nI cn) (hcn : cn ≤ 10) : zM l yX2_add wsX2_add ({ frames := 1, cells := 0, slots := 0, locals := 21 }) E [.ref h0, .int x, .int y, .int z] ([[(h0, .inr (1, [.ref a0, .ref b0, .ref d0, .int c0]))], [(a0, .inl (E.2 0, 10, .inl f))], [(b0, .inl (E.2 0, 10, .inl g))], [(d0, .inl (E.2 0, 10, .inl k))]] : List va_W).flatten none ([[(h0, .inr (1, [.ref a0, .ref b0, .ref d0, .int (m_kn c0)]))], [(a0, .inl (E.2 0, 10, .inl (m_kf c0 f x)))], [(b0, .inl (E.2 0, 10, .inl (m_kf c0 g y)))], [(d0, .inl (E.2 0, 10, .inl (m_kf c0 k z)))]] : List va_W).flatten 0 0 := by
  refine z_start (cc := cX2_add) (maxL := 4) (ret := none) (by decide) rfl (Nat.le_of_ble_eq_true rfl) ?_
  intro Pg En s Mi below meth Cd A hx hb hr hts hown hlocks hin hml hA H hH hP hK hD hS ls hl
  have hl : lv_has ls 4 [(0, .ref h0), (1, .int x), (2, .int y), (3, .int z)] := hl
  have hi_X2 : ∀ w ∈ wsX20, w ∈ wsX2_add := by decide +kernel
  refine lv_aload_n hx hb dX2_add_0 rfl (lv_at hl 0 rfl) ?_
  refine va_get (D := E.1) (ci := 1) (v := .int c0) (C := RX2) (T := TX2) (N := 4) hx hb hts hi_X2 hown hK.1 hP 0 rfl rfl 3 (by decide) (hts (.fieldLink RX2 25 "AltimeterWatch$Marks" "count" "I") (by decide +kernel)) (fun _ h9 => h9) rfl dX2_add_1 ?_
  refine lv_bipush (v := 10) hx hb dX2_add_4 (by decide) ?_
  refine lv_icmp_lt (tgt := 36) hx hb dX2_add_6 (by decide) (fun c_6 => ?_) (fun c_6 => ?_)
  · refine lv_aload_n hx hb dX2_add_36 rfl (lv_at hl 0 rfl) ?_
    refine va_get (D := E.1) (ci := 1) (v := .int c0) (C := RX2) (T := TX2) (N := 4) hx hb hts hi_X2 hown hK.1 hP 0 rfl rfl 3 (by decide) (hts (.fieldLink RX2 25 "AltimeterWatch$Marks" "count" "I") (by decide +kernel)) (fun _ h9 => h9) rfl dX2_add_37 ?_
    refine lv_if_lt (tgt := 119) hx hb dX2_add_40 (by decide) (fun h9 => absurd h9 ((by rw [hc]; exact nI_pos (by omega)))) (fun _ => ?_)
    refine lv_aload_n hx hb dX2_add_43 rfl (lv_at hl 0 rfl) ?_
    refine va_get (D := E.1) (ci := 1) (v := .int c0) (C := RX2) (T := TX2) (N := 4) hx hb hts hi_X2 hown hK.1 hP 0 rfl rfl 3 (by decide) (hts (.fieldLink RX2 25 "AltimeterWatch$Marks" "count" "I") (by decide +kernel)) (fun _ h9 => h9) rfl dX2_add_44 ?_
    refine lv_aload_n hx hb dX2_add_47 rfl (lv_at hl 0 rfl) ?_
    refine va_get (D := E.1) (ci := 1) (v := .ref a0) (C := RX2) (T := TX2) (N := 4) hx hb hts hi_X2 hown hK.1 hP 0 rfl rfl 0 (by decide) (hts (.fieldLink RX2 9 "AltimeterWatch$Marks" "times" "[I") (by decide +kernel)) (fun _ h9 => h9) rfl dX2_add_48 ?_
    refine va_alen (v := 10) hx hb hK.1 hP 1 0 rfl rfl rfl dX2_add_51 ?_
    refine lv_icmp_ge (tgt := 119) hx hb dX2_add_52 (by decide) (fun h9 => absurd h9 ((Int32.not_le.mpr c_6))) (fun _ => ?_)
    refine lv_aload_n hx hb dX2_add_55 rfl (lv_at hl 0 rfl) ?_
    refine va_get (D := E.1) (ci := 1) (v := .int c0) (C := RX2) (T := TX2) (N := 4) hx hb hts hi_X2 hown hK.1 hP 0 rfl rfl 3 (by decide) (hts (.fieldLink RX2 25 "AltimeterWatch$Marks" "count" "I") (by decide +kernel)) (fun _ h9 => h9) rfl dX2_add_56 ?_
    refine lv_aload_n hx hb dX2_add_59 rfl (lv_at hl 0 rfl) ?_
    refine va_get (D := E.1) (ci := 1) (v := .ref b0) (C := RX2) (T := TX2) (N := 4) hx hb hts hi_X2 hown hK.1 hP 0 rfl rfl 1 (by decide) (hts (.fieldLink RX2 15 "AltimeterWatch$Marks" "heights" "[I") (by decide +kernel)) (fun _ h9 => h9) rfl dX2_add_60 ?_
    refine va_alen (v := 10) hx hb hK.1 hP 2 0 rfl rfl rfl dX2_add_63 ?_
    refine lv_icmp_ge (tgt := 119) hx hb dX2_add_64 (by decide) (fun h9 => absurd h9 ((Int32.not_le.mpr c_6))) (fun _ => ?_)
    refine lv_aload_n hx hb dX2_add_67 rfl (lv_at hl 0 rfl) ?_
    refine va_get (D := E.1) (ci := 1) (v := .int c0) (C := RX2) (T := TX2) (N := 4) hx hb hts hi_X2 hown hK.1 hP 0 rfl rfl 3 (by decide) (hts (.fieldLink RX2 25 "AltimeterWatch$Marks" "count" "I") (by decide +kernel)) (fun _ h9 => h9) rfl dX2_add_68 ?_
    refine lv_aload_n hx hb dX2_add_71 rfl (lv_at hl 0 rfl) ?_
    refine va_get (D := E.1) (ci := 1) (v := .ref d0) (C := RX2) (T := TX2) (N := 4) hx hb hts hi_X2 hown hK.1 hP 0 rfl rfl 2 (by decide) (hts (.fieldLink RX2 18 "AltimeterWatch$Marks" "ascents" "[I") (by decide +kernel)) (fun _ h9 => h9) rfl dX2_add_72 ?_
    refine va_alen (v := 10) hx hb hK.1 hP 3 0 rfl rfl rfl dX2_add_75 ?_
    refine lv_icmp_ge (tgt := 119) hx hb dX2_add_76 (by decide) (fun h9 => absurd h9 ((Int32.not_le.mpr c_6))) (fun _ => ?_)
    refine lv_aload_n hx hb dX2_add_79 rfl (lv_at hl 0 rfl) ?_
    refine va_get (D := E.1) (ci := 1) (v := .ref a0) (C := RX2) (T := TX2) (N := 4) hx hb hts hi_X2 hown hK.1 hP 0 rfl rfl 0 (by decide) (hts (.fieldLink RX2 9 "AltimeterWatch$Marks" "times" "[I") (by decide +kernel)) (fun _ h9 => h9) rfl dX2_add_80 ?_
    refine lv_aload_n hx hb dX2_add_83 rfl (lv_at hl 0 rfl) ?_
    refine va_get (D := E.1) (ci := 1) (v := .int c0) (C := RX2) (T := TX2) (N := 4) hx hb hts hi_X2 hown hK.1 hP 0 rfl rfl 3 (by decide) (hts (.fieldLink RX2 25 "AltimeterWatch$Marks" "count" "I") (by decide +kernel)) (fun _ h9 => h9) rfl dX2_add_84 ?_
    refine lv_iload_n hx hb dX2_add_87 rfl (lv_at hl 1 rfl) ?_
    refine z_iast (k := c0.toNatClampNeg) hx hb hK.1 hP hD hS 1 rfl (k_eq (by rw [hc]; exact nI_pos (by omega))) (k_ltc (by rw [hc]; exact nI_pos (by omega)) (Int32.not_le.mpr c_6) (by decide)) (by decide) dX2_add_88 (fun H locs hP hD hS => ?_)
    have hP : va_P E.1 vwCl ([[(h0, .inr (1, [.ref a0, .ref b0, .ref d0, .int c0]))], [(a0, .inl (E.2 0, 10, .inl (upd f c0.toNatClampNeg x)))], [(b0, .inl (E.2 0, 10, .inl g))], [(d0, .inl (E.2 0, 10, .inl k))]] : List va_W).flatten H := hP
    have hD : va_D A ([[(h0, .inr (1, [.ref a0, .ref b0, .ref d0, .int c0]))], [(a0, .inl (E.2 0, 10, .inl (upd f c0.toNatClampNeg x)))], [(b0, .inl (E.2 0, 10, .inl g))], [(d0, .inl (E.2 0, 10, .inl k))]] : List va_W).flatten := hD
    refine lv_aload_n hx hb dX2_add_89 rfl (lv_at hl 0 rfl) ?_
    refine va_get (D := E.1) (ci := 1) (v := .ref b0) (C := RX2) (T := TX2) (N := 4) hx hb hts hi_X2 hown hK.1 hP 0 rfl rfl 1 (by decide) (hts (.fieldLink RX2 15 "AltimeterWatch$Marks" "heights" "[I") (by decide +kernel)) (fun _ h9 => h9) rfl dX2_add_90 ?_
    refine lv_aload_n hx hb dX2_add_93 rfl (lv_at hl 0 rfl) ?_
    refine va_get (D := E.1) (ci := 1) (v := .int c0) (C := RX2) (T := TX2) (N := 4) hx hb hts hi_X2 hown hK.1 hP 0 rfl rfl 3 (by decide) (hts (.fieldLink RX2 25 "AltimeterWatch$Marks" "count" "I") (by decide +kernel)) (fun _ h9 => h9) rfl dX2_add_94 ?_
    refine lv_iload_n hx hb dX2_add_97 rfl (lv_at hl 2 rfl) ?_
    refine z_iast (k := c0.toNatClampNeg) hx hb hK.1 hP hD hS 2 rfl (k_eq (by rw [hc]; exact nI_pos (by omega))) (k_ltc (by rw [hc]; exact nI_pos (by omega)) (Int32.not_le.mpr c_6) (by decide)) (by decide) dX2_add_98 (fun H locs hP hD hS => ?_)
    have hP : va_P E.1 vwCl ([[(h0, .inr (1, [.ref a0, .ref b0, .ref d0, .int c0]))], [(a0, .inl (E.2 0, 10, .inl (upd f c0.toNatClampNeg x)))], [(b0, .inl (E.2 0, 10, .inl (upd g c0.toNatClampNeg y)))], [(d0, .inl (E.2 0, 10, .inl k))]] : List va_W).flatten H := hP
    have hD : va_D A ([[(h0, .inr (1, [.ref a0, .ref b0, .ref d0, .int c0]))], [(a0, .inl (E.2 0, 10, .inl (upd f c0.toNatClampNeg x)))], [(b0, .inl (E.2 0, 10, .inl (upd g c0.toNatClampNeg y)))], [(d0, .inl (E.2 0, 10, .inl k))]] : List va_W).flatten := hD
    refine lv_aload_n hx hb dX2_add_99 rfl (lv_at hl 0 rfl) ?_
    refine va_get (D := E.1) (ci := 1) (v := .ref d0) (C := RX2) (T := TX2) (N := 4) hx hb hts hi_X2 hown hK.1 hP 0 rfl rfl 2 (by decide) (hts (.fieldLink RX2 18 "AltimeterWatch$Marks" "ascents" "[I") (by decide +kernel)) (fun _ h9 => h9) rfl dX2_add_100 ?_
    refine lv_aload_n hx hb dX2_add_103 rfl (lv_at hl 0 rfl) ?_
    refine va_get (D := E.1) (ci := 1) (v := .int c0) (C := RX2) (T := TX2) (N := 4) hx hb hts hi_X2 hown hK.1 hP 0 rfl rfl 3 (by decide) (hts (.fieldLink RX2 25 "AltimeterWatch$Marks" "count" "I") (by decide +kernel)) (fun _ h9 => h9) rfl dX2_add_104 ?_
    refine lv_iload_n hx hb dX2_add_107 rfl (lv_at hl 3 rfl) ?_
    refine z_iast (k := c0.toNatClampNeg) hx hb hK.1 hP hD hS 3 rfl (k_eq (by rw [hc]; exact nI_pos (by omega))) (k_ltc (by rw [hc]; exact nI_pos (by omega)) (Int32.not_le.mpr c_6) (by decide)) (by decide) dX2_add_108 (fun H locs hP hD hS => ?_)
    have hP : va_P E.1 vwCl ([[(h0, .inr (1, [.ref a0, .ref b0, .ref d0, .int c0]))], [(a0, .inl (E.2 0, 10, .inl (upd f c0.toNatClampNeg x)))], [(b0, .inl (E.2 0, 10, .inl (upd g c0.toNatClampNeg y)))], [(d0, .inl (E.2 0, 10, .inl (upd k c0.toNatClampNeg z)))]] : List va_W).flatten H := hP
    have hD : va_D A ([[(h0, .inr (1, [.ref a0, .ref b0, .ref d0, .int c0]))], [(a0, .inl (E.2 0, 10, .inl (upd f c0.toNatClampNeg x)))], [(b0, .inl (E.2 0, 10, .inl (upd g c0.toNatClampNeg y)))], [(d0, .inl (E.2 0, 10, .inl (upd k c0.toNatClampNeg z)))]] : List va_W).flatten := hD
    refine lv_aload_n hx hb dX2_add_109 rfl (lv_at hl 0 rfl) ?_
    refine lv_dup hx hb dX2_add_110 rfl ?_
    refine va_get (D := E.1) (ci := 1) (v := .int c0) (C := RX2) (T := TX2) (N := 4) hx hb hts hi_X2 hown hK.1 hP 0 rfl rfl 3 (by decide) (hts (.fieldLink RX2 25 "AltimeterWatch$Marks" "count" "I") (by decide +kernel)) (fun _ h9 => h9) rfl dX2_add_111 ?_
    refine lv_iconst (v := 1) hx hb dX2_add_114 (by decide) ?_
    refine lv_iadd hx hb dX2_add_115 ?_
    refine lv_topi (fun f_1 ef_1 => ?_)
    refine va_put (D := E.1) (ci := 1) (v := .int f_1) (ty := .int) (C := RX2) (T := TX2) (N := 4) hx hb hts hi_X2 tyX2 tyX2_ok nmX2 hown hK.1 hP hD hS 0 rfl rfl 3 (by decide) (hts (.fieldLink RX2 25 "AltimeterWatch$Marks" "count" "I") (by decide +kernel)) (fun _ h9 => h9) rfl (by decide +kernel) rfl rfl (Nat.le_of_ble_eq_true rfl) dX2_add_116 (fun H locs hP hD hS => ?_)
    have hP : va_P E.1 vwCl ([[(h0, .inr (1, [.ref a0, .ref b0, .ref d0, .int f_1]))], [(a0, .inl (E.2 0, 10, .inl (upd f c0.toNatClampNeg x)))], [(b0, .inl (E.2 0, 10, .inl (upd g c0.toNatClampNeg y)))], [(d0, .inl (E.2 0, 10, .inl (upd k c0.toNatClampNeg z)))]] : List va_W).flatten H := hP
    have hD : va_D A ([[(h0, .inr (1, [.ref a0, .ref b0, .ref d0, .int f_1]))], [(a0, .inl (E.2 0, 10, .inl (upd f c0.toNatClampNeg x)))], [(b0, .inl (E.2 0, 10, .inl (upd g c0.toNatClampNeg y)))], [(d0, .inl (E.2 0, 10, .inl (upd k c0.toNatClampNeg z)))]] : List va_W).flatten := hD
    have hP : va_P E.1 vwCl ([[(h0, .inr (1, [.ref a0, .ref b0, .ref d0, .int f_1]))], [(a0, .inl (E.2 0, 10, .inl (upd f c0.toNatClampNeg x)))], [(b0, .inl (E.2 0, 10, .inl (upd g c0.toNatClampNeg y)))], [(d0, .inl (E.2 0, 10, .inl (upd k c0.toNatClampNeg z)))]] : List va_W).flatten H := zf_sub hP [0, 1, 2, 3] rfl
    have hD : va_D A ([[(h0, .inr (1, [.ref a0, .ref b0, .ref d0, .int f_1]))], [(a0, .inl (E.2 0, 10, .inl (upd f c0.toNatClampNeg x)))], [(b0, .inl (E.2 0, 10, .inl (upd g c0.toNatClampNeg y)))], [(d0, .inl (E.2 0, 10, .inl (upd k c0.toNatClampNeg z)))]] : List va_W).flatten := zf_subD hD [0, 1, 2, 3] (by decide) rfl
    exact W.vret hx hb hr (z_end hP hD hS (by rw [m_kn, m_kf, m_kf, m_kf, if_pos c_6, if_pos c_6, if_pos c_6, if_pos c_6, ← ef_1])) hS.2.2 dX2_add_119 hlocks
  · refine lv_aload_n hx hb dX2_add_9 rfl (lv_at hl 0 rfl) ?_
    refine va_get (D := E.1) (ci := 1) (v := .ref a0) (C := RX2) (T := TX2) (N := 4) hx hb hts hi_X2 hown hK.1 hP 0 rfl rfl 0 (by decide) (hts (.fieldLink RX2 9 "AltimeterWatch$Marks" "times" "[I") (by decide +kernel)) (fun _ h9 => h9) rfl dX2_add_10 ?_
    have hPc : va_P E.1 vwCl ([[(a0, .inl (E.2 0, 10, .inl f))]] : List va_W).flatten H := zf_sub hP [1] rfl
    have hDc : va_D A ([[(a0, .inl (E.2 0, 10, .inl f))]] : List va_W).flatten := zf_subD hD [1] (by decide) rfl
    refine z_mut (Sc := [[(a0, .inl (E.2 0, 10, .inl f))]]) (Sr := [[(h0, .inr (1, [.ref a0, .ref b0, .ref d0, .int c0]))], [(b0, .inl (E.2 0, 10, .inl g))], [(d0, .inl (E.2 0, 10, .inl k))]]) (W1 := [[(a0, .inl (E.2 0, 10, .inl (m_up 10 f)))]]) (va_runSN (As := [.ref a0]) (rest := []) ⟨hx, hb, hml, hown, hts⟩ (c_X9_moveUp l E a0 10 f (by decide) (by decide) H.size) (⟨va_cnB 1 hts gX2_add_X9_moveUp_n29 rfl rfl rfl (hK.2.2.2.2.2.2.1) (hts (.initialized RX9) (by decide +kernel)) (by decide +kernel) ⟨Nat.le_of_ble_eq_true rfl, Nat.le_of_ble_eq_true rfl⟩, hts (.static yX9_moveUp) (by decide +kernel), trivial⟩) ⟨zP.blind, z_pre hK hPc hDc⟩ rfl rfl hl.1 rfl (lv_room (Nat.le_of_ble_eq_true rfl)) dX2_add_13 ⟨Nat.le_of_ble_eq_true rfl, Nat.le_of_ble_eq_true rfl⟩) hP hD hS hA [1] [0, 2, 3] rfl rfl (by decide) (by decide) (fun H locs hP hD hS => ?_)
    have hP : va_P E.1 vwCl ([[(h0, .inr (1, [.ref a0, .ref b0, .ref d0, .int c0]))], [(b0, .inl (E.2 0, 10, .inl g))], [(d0, .inl (E.2 0, 10, .inl k))], [(a0, .inl (E.2 0, 10, .inl (m_up 10 f)))]] : List va_W).flatten H := hP
    have hD : va_D A ([[(h0, .inr (1, [.ref a0, .ref b0, .ref d0, .int c0]))], [(b0, .inl (E.2 0, 10, .inl g))], [(d0, .inl (E.2 0, 10, .inl k))], [(a0, .inl (E.2 0, 10, .inl (m_up 10 f)))]] : List va_W).flatten := hD
    refine W.eq (g2 := F0 Mi 16 ls []) rfl ?_
    refine lv_aload_n hx hb dX2_add_16 rfl (lv_at hl 0 rfl) ?_
    refine va_get (D := E.1) (ci := 1) (v := .ref b0) (C := RX2) (T := TX2) (N := 4) hx hb hts hi_X2 hown hK.1 hP 0 rfl rfl 1 (by decide) (hts (.fieldLink RX2 15 "AltimeterWatch$Marks" "heights" "[I") (by decide +kernel)) (fun _ h9 => h9) rfl dX2_add_17 ?_
    have hPc : va_P E.1 vwCl ([[(b0, .inl (E.2 0, 10, .inl g))]] : List va_W).flatten H := zf_sub hP [1] rfl
    have hDc : va_D A ([[(b0, .inl (E.2 0, 10, .inl g))]] : List va_W).flatten := zf_subD hD [1] (by decide) rfl
    refine z_mut (Sc := [[(b0, .inl (E.2 0, 10, .inl g))]]) (Sr := [[(h0, .inr (1, [.ref a0, .ref b0, .ref d0, .int c0]))], [(d0, .inl (E.2 0, 10, .inl k))], [(a0, .inl (E.2 0, 10, .inl (m_up 10 f)))]]) (W1 := [[(b0, .inl (E.2 0, 10, .inl (m_up 10 g)))]]) (va_runSN (As := [.ref b0]) (rest := []) ⟨hx, hb, hml, hown, hts⟩ (c_X9_moveUp l E b0 10 g (by decide) (by decide) H.size) (⟨va_cnB 1 hts gX2_add_X9_moveUp_n29 rfl rfl rfl (hK.2.2.2.2.2.2.1) (hts (.initialized RX9) (by decide +kernel)) (by decide +kernel) ⟨Nat.le_of_ble_eq_true rfl, Nat.le_of_ble_eq_true rfl⟩, hts (.static yX9_moveUp) (by decide +kernel), trivial⟩) ⟨zP.blind, z_pre hK hPc hDc⟩ rfl rfl hl.1 rfl (lv_room (Nat.le_of_ble_eq_true rfl)) dX2_add_20 ⟨Nat.le_of_ble_eq_true rfl, Nat.le_of_ble_eq_true rfl⟩) hP hD hS hA [1] [0, 2, 3] rfl rfl (by decide) (by decide) (fun H locs hP hD hS => ?_)
    have hP : va_P E.1 vwCl ([[(h0, .inr (1, [.ref a0, .ref b0, .ref d0, .int c0]))], [(d0, .inl (E.2 0, 10, .inl k))], [(a0, .inl (E.2 0, 10, .inl (m_up 10 f)))], [(b0, .inl (E.2 0, 10, .inl (m_up 10 g)))]] : List va_W).flatten H := hP
    have hD : va_D A ([[(h0, .inr (1, [.ref a0, .ref b0, .ref d0, .int c0]))], [(d0, .inl (E.2 0, 10, .inl k))], [(a0, .inl (E.2 0, 10, .inl (m_up 10 f)))], [(b0, .inl (E.2 0, 10, .inl (m_up 10 g)))]] : List va_W).flatten := hD
    refine W.eq (g2 := F0 Mi 23 ls []) rfl ?_
    refine lv_aload_n hx hb dX2_add_23 rfl (lv_at hl 0 rfl) ?_
    refine va_get (D := E.1) (ci := 1) (v := .ref d0) (C := RX2) (T := TX2) (N := 4) hx hb hts hi_X2 hown hK.1 hP 0 rfl rfl 2 (by decide) (hts (.fieldLink RX2 18 "AltimeterWatch$Marks" "ascents" "[I") (by decide +kernel)) (fun _ h9 => h9) rfl dX2_add_24 ?_
    have hPc : va_P E.1 vwCl ([[(d0, .inl (E.2 0, 10, .inl k))]] : List va_W).flatten H := zf_sub hP [1] rfl
    have hDc : va_D A ([[(d0, .inl (E.2 0, 10, .inl k))]] : List va_W).flatten := zf_subD hD [1] (by decide) rfl
    refine z_mut (Sc := [[(d0, .inl (E.2 0, 10, .inl k))]]) (Sr := [[(h0, .inr (1, [.ref a0, .ref b0, .ref d0, .int c0]))], [(a0, .inl (E.2 0, 10, .inl (m_up 10 f)))], [(b0, .inl (E.2 0, 10, .inl (m_up 10 g)))]]) (W1 := [[(d0, .inl (E.2 0, 10, .inl (m_up 10 k)))]]) (va_runSN (As := [.ref d0]) (rest := []) ⟨hx, hb, hml, hown, hts⟩ (c_X9_moveUp l E d0 10 k (by decide) (by decide) H.size) (⟨va_cnB 1 hts gX2_add_X9_moveUp_n29 rfl rfl rfl (hK.2.2.2.2.2.2.1) (hts (.initialized RX9) (by decide +kernel)) (by decide +kernel) ⟨Nat.le_of_ble_eq_true rfl, Nat.le_of_ble_eq_true rfl⟩, hts (.static yX9_moveUp) (by decide +kernel), trivial⟩) ⟨zP.blind, z_pre hK hPc hDc⟩ rfl rfl hl.1 rfl (lv_room (Nat.le_of_ble_eq_true rfl)) dX2_add_27 ⟨Nat.le_of_ble_eq_true rfl, Nat.le_of_ble_eq_true rfl⟩) hP hD hS hA [1] [0, 2, 3] rfl rfl (by decide) (by decide) (fun H locs hP hD hS => ?_)
    have hP : va_P E.1 vwCl ([[(h0, .inr (1, [.ref a0, .ref b0, .ref d0, .int c0]))], [(a0, .inl (E.2 0, 10, .inl (m_up 10 f)))], [(b0, .inl (E.2 0, 10, .inl (m_up 10 g)))], [(d0, .inl (E.2 0, 10, .inl (m_up 10 k)))]] : List va_W).flatten H := hP
    have hD : va_D A ([[(h0, .inr (1, [.ref a0, .ref b0, .ref d0, .int c0]))], [(a0, .inl (E.2 0, 10, .inl (m_up 10 f)))], [(b0, .inl (E.2 0, 10, .inl (m_up 10 g)))], [(d0, .inl (E.2 0, 10, .inl (m_up 10 k)))]] : List va_W).flatten := hD
    refine W.eq (g2 := F0 Mi 30 ls []) rfl ?_
    refine lv_aload_n hx hb dX2_add_30 rfl (lv_at hl 0 rfl) ?_
    refine lv_bipush (v := 9) hx hb dX2_add_31 (by decide) ?_
    refine va_put (D := E.1) (ci := 1) (v := .int 9) (ty := .int) (C := RX2) (T := TX2) (N := 4) hx hb hts hi_X2 tyX2 tyX2_ok nmX2 hown hK.1 hP hD hS 0 rfl rfl 3 (by decide) (hts (.fieldLink RX2 25 "AltimeterWatch$Marks" "count" "I") (by decide +kernel)) (fun _ h9 => h9) rfl (by decide +kernel) rfl rfl (Nat.le_of_ble_eq_true rfl) dX2_add_33 (fun H locs hP hD hS => ?_)
    have hP : va_P E.1 vwCl ([[(h0, .inr (1, [.ref a0, .ref b0, .ref d0, .int 9]))], [(a0, .inl (E.2 0, 10, .inl (m_up 10 f)))], [(b0, .inl (E.2 0, 10, .inl (m_up 10 g)))], [(d0, .inl (E.2 0, 10, .inl (m_up 10 k)))]] : List va_W).flatten H := hP
    have hD : va_D A ([[(h0, .inr (1, [.ref a0, .ref b0, .ref d0, .int 9]))], [(a0, .inl (E.2 0, 10, .inl (m_up 10 f)))], [(b0, .inl (E.2 0, 10, .inl (m_up 10 g)))], [(d0, .inl (E.2 0, 10, .inl (m_up 10 k)))]] : List va_W).flatten := hD
    refine lv_aload_n hx hb dX2_add_36 rfl (lv_at hl 0 rfl) ?_
    refine va_get (D := E.1) (ci := 1) (v := .int 9) (C := RX2) (T := TX2) (N := 4) hx hb hts hi_X2 hown hK.1 hP 0 rfl rfl 3 (by decide) (hts (.fieldLink RX2 25 "AltimeterWatch$Marks" "count" "I") (by decide +kernel)) (fun _ h9 => h9) rfl dX2_add_37 ?_
    refine lv_if_lt (tgt := 119) hx hb dX2_add_40 (by decide) (fun h9 => absurd h9 ((by decide))) (fun _ => ?_)
    refine lv_aload_n hx hb dX2_add_43 rfl (lv_at hl 0 rfl) ?_
    refine va_get (D := E.1) (ci := 1) (v := .int 9) (C := RX2) (T := TX2) (N := 4) hx hb hts hi_X2 hown hK.1 hP 0 rfl rfl 3 (by decide) (hts (.fieldLink RX2 25 "AltimeterWatch$Marks" "count" "I") (by decide +kernel)) (fun _ h9 => h9) rfl dX2_add_44 ?_
    refine lv_aload_n hx hb dX2_add_47 rfl (lv_at hl 0 rfl) ?_
    refine va_get (D := E.1) (ci := 1) (v := .ref a0) (C := RX2) (T := TX2) (N := 4) hx hb hts hi_X2 hown hK.1 hP 0 rfl rfl 0 (by decide) (hts (.fieldLink RX2 9 "AltimeterWatch$Marks" "times" "[I") (by decide +kernel)) (fun _ h9 => h9) rfl dX2_add_48 ?_
    refine va_alen (v := 10) hx hb hK.1 hP 1 0 rfl rfl rfl dX2_add_51 ?_
    refine lv_icmp_ge (tgt := 119) hx hb dX2_add_52 (by decide) (fun h9 => absurd h9 ((by decide))) (fun _ => ?_)
    refine lv_aload_n hx hb dX2_add_55 rfl (lv_at hl 0 rfl) ?_
    refine va_get (D := E.1) (ci := 1) (v := .int 9) (C := RX2) (T := TX2) (N := 4) hx hb hts hi_X2 hown hK.1 hP 0 rfl rfl 3 (by decide) (hts (.fieldLink RX2 25 "AltimeterWatch$Marks" "count" "I") (by decide +kernel)) (fun _ h9 => h9) rfl dX2_add_56 ?_
    refine lv_aload_n hx hb dX2_add_59 rfl (lv_at hl 0 rfl) ?_
    refine va_get (D := E.1) (ci := 1) (v := .ref b0) (C := RX2) (T := TX2) (N := 4) hx hb hts hi_X2 hown hK.1 hP 0 rfl rfl 1 (by decide) (hts (.fieldLink RX2 15 "AltimeterWatch$Marks" "heights" "[I") (by decide +kernel)) (fun _ h9 => h9) rfl dX2_add_60 ?_
    refine va_alen (v := 10) hx hb hK.1 hP 2 0 rfl rfl rfl dX2_add_63 ?_
    refine lv_icmp_ge (tgt := 119) hx hb dX2_add_64 (by decide) (fun h9 => absurd h9 ((by decide))) (fun _ => ?_)
    refine lv_aload_n hx hb dX2_add_67 rfl (lv_at hl 0 rfl) ?_
    refine va_get (D := E.1) (ci := 1) (v := .int 9) (C := RX2) (T := TX2) (N := 4) hx hb hts hi_X2 hown hK.1 hP 0 rfl rfl 3 (by decide) (hts (.fieldLink RX2 25 "AltimeterWatch$Marks" "count" "I") (by decide +kernel)) (fun _ h9 => h9) rfl dX2_add_68 ?_
    refine lv_aload_n hx hb dX2_add_71 rfl (lv_at hl 0 rfl) ?_
    refine va_get (D := E.1) (ci := 1) (v := .ref d0) (C := RX2) (T := TX2) (N := 4) hx hb hts hi_X2 hown hK.1 hP 0 rfl rfl 2 (by decide) (hts (.fieldLink RX2 18 "AltimeterWatch$Marks" "ascents" "[I") (by decide +kernel)) (fun _ h9 => h9) rfl dX2_add_72 ?_
    refine va_alen (v := 10) hx hb hK.1 hP 3 0 rfl rfl rfl dX2_add_75 ?_
    refine lv_icmp_ge (tgt := 119) hx hb dX2_add_76 (by decide) (fun h9 => absurd h9 ((by decide))) (fun _ => ?_)
    refine lv_aload_n hx hb dX2_add_79 rfl (lv_at hl 0 rfl) ?_
    refine va_get (D := E.1) (ci := 1) (v := .ref a0) (C := RX2) (T := TX2) (N := 4) hx hb hts hi_X2 hown hK.1 hP 0 rfl rfl 0 (by decide) (hts (.fieldLink RX2 9 "AltimeterWatch$Marks" "times" "[I") (by decide +kernel)) (fun _ h9 => h9) rfl dX2_add_80 ?_
    refine lv_aload_n hx hb dX2_add_83 rfl (lv_at hl 0 rfl) ?_
    refine va_get (D := E.1) (ci := 1) (v := .int 9) (C := RX2) (T := TX2) (N := 4) hx hb hts hi_X2 hown hK.1 hP 0 rfl rfl 3 (by decide) (hts (.fieldLink RX2 25 "AltimeterWatch$Marks" "count" "I") (by decide +kernel)) (fun _ h9 => h9) rfl dX2_add_84 ?_
    refine lv_iload_n hx hb dX2_add_87 rfl (lv_at hl 1 rfl) ?_
    refine z_iast (k := 9) hx hb hK.1 hP hD hS 1 rfl rfl (by decide) (by decide) dX2_add_88 (fun H locs hP hD hS => ?_)
    have hP : va_P E.1 vwCl ([[(h0, .inr (1, [.ref a0, .ref b0, .ref d0, .int 9]))], [(a0, .inl (E.2 0, 10, .inl (upd (m_up 10 f) 9 x)))], [(b0, .inl (E.2 0, 10, .inl (m_up 10 g)))], [(d0, .inl (E.2 0, 10, .inl (m_up 10 k)))]] : List va_W).flatten H := hP
    have hD : va_D A ([[(h0, .inr (1, [.ref a0, .ref b0, .ref d0, .int 9]))], [(a0, .inl (E.2 0, 10, .inl (upd (m_up 10 f) 9 x)))], [(b0, .inl (E.2 0, 10, .inl (m_up 10 g)))], [(d0, .inl (E.2 0, 10, .inl (m_up 10 k)))]] : List va_W).flatten := hD
    refine lv_aload_n hx hb dX2_add_89 rfl (lv_at hl 0 rfl) ?_
    refine va_get (D := E.1) (ci := 1) (v := .ref b0) (C := RX2) (T := TX2) (N := 4) hx hb hts hi_X2 hown hK.1 hP 0 rfl rfl 1 (by decide) (hts (.fieldLink RX2 15 "AltimeterWatch$Marks" "heights" "[I") (by decide +kernel)) (fun _ h9 => h9) rfl dX2_add_90 ?_
    refine lv_aload_n hx hb dX2_add_93 rfl (lv_at hl 0 rfl) ?_
    refine va_get (D := E.1) (ci := 1) (v := .int 9) (C := RX2) (T := TX2) (N := 4) hx hb hts hi_X2 hown hK.1 hP 0 rfl rfl 3 (by decide) (hts (.fieldLink RX2 25 "AltimeterWatch$Marks" "count" "I") (by decide +kernel)) (fun _ h9 => h9) rfl dX2_add_94 ?_
    refine lv_iload_n hx hb dX2_add_97 rfl (lv_at hl 2 rfl) ?_
    refine z_iast (k := 9) hx hb hK.1 hP hD hS 2 rfl rfl (by decide) (by decide) dX2_add_98 (fun H locs hP hD hS => ?_)
    have hP : va_P E.1 vwCl ([[(h0, .inr (1, [.ref a0, .ref b0, .ref d0, .int 9]))], [(a0, .inl (E.2 0, 10, .inl (upd (m_up 10 f) 9 x)))], [(b0, .inl (E.2 0, 10, .inl (upd (m_up 10 g) 9 y)))], [(d0, .inl (E.2 0, 10, .inl (m_up 10 k)))]] : List va_W).flatten H := hP
    have hD : va_D A ([[(h0, .inr (1, [.ref a0, .ref b0, .ref d0, .int 9]))], [(a0, .inl (E.2 0, 10, .inl (upd (m_up 10 f) 9 x)))], [(b0, .inl (E.2 0, 10, .inl (upd (m_up 10 g) 9 y)))], [(d0, .inl (E.2 0, 10, .inl (m_up 10 k)))]] : List va_W).flatten := hD
    refine lv_aload_n hx hb dX2_add_99 rfl (lv_at hl 0 rfl) ?_
    refine va_get (D := E.1) (ci := 1) (v := .ref d0) (C := RX2) (T := TX2) (N := 4) hx hb hts hi_X2 hown hK.1 hP 0 rfl rfl 2 (by decide) (hts (.fieldLink RX2 18 "AltimeterWatch$Marks" "ascents" "[I") (by decide +kernel)) (fun _ h9 => h9) rfl dX2_add_100 ?_
    refine lv_aload_n hx hb dX2_add_103 rfl (lv_at hl 0 rfl) ?_
    refine va_get (D := E.1) (ci := 1) (v := .int 9) (C := RX2) (T := TX2) (N := 4) hx hb hts hi_X2 hown hK.1 hP 0 rfl rfl 3 (by decide) (hts (.fieldLink RX2 25 "AltimeterWatch$Marks" "count" "I") (by decide +kernel)) (fun _ h9 => h9) rfl dX2_add_104 ?_
    refine lv_iload_n hx hb dX2_add_107 rfl (lv_at hl 3 rfl) ?_
    refine z_iast (k := 9) hx hb hK.1 hP hD hS 3 rfl rfl (by decide) (by decide) dX2_add_108 (fun H locs hP hD hS => ?_)
    have hP : va_P E.1 vwCl ([[(h0, .inr (1, [.ref a0, .ref b0, .ref d0, .int 9]))], [(a0, .inl (E.2 0, 10, .inl (upd (m_up 10 f) 9 x)))], [(b0, .inl (E.2 0, 10, .inl (upd (m_up 10 g) 9 y)))], [(d0, .inl (E.2 0, 10, .inl (upd (m_up 10 k) 9 z)))]] : List va_W).flatten H := hP
    have hD : va_D A ([[(h0, .inr (1, [.ref a0, .ref b0, .ref d0, .int 9]))], [(a0, .inl (E.2 0, 10, .inl (upd (m_up 10 f) 9 x)))], [(b0, .inl (E.2 0, 10, .inl (upd (m_up 10 g) 9 y)))], [(d0, .inl (E.2 0, 10, .inl (upd (m_up 10 k) 9 z)))]] : List va_W).flatten := hD
    refine lv_aload_n hx hb dX2_add_109 rfl (lv_at hl 0 rfl) ?_
    refine lv_dup hx hb dX2_add_110 rfl ?_
    refine va_get (D := E.1) (ci := 1) (v := .int 9) (C := RX2) (T := TX2) (N := 4) hx hb hts hi_X2 hown hK.1 hP 0 rfl rfl 3 (by decide) (hts (.fieldLink RX2 25 "AltimeterWatch$Marks" "count" "I") (by decide +kernel)) (fun _ h9 => h9) rfl dX2_add_111 ?_
    refine lv_iconst (v := 1) hx hb dX2_add_114 (by decide) ?_
    refine lv_iadd hx hb dX2_add_115 ?_
    refine lv_topi (fun f_2 ef_2 => ?_)
    refine va_put (D := E.1) (ci := 1) (v := .int f_2) (ty := .int) (C := RX2) (T := TX2) (N := 4) hx hb hts hi_X2 tyX2 tyX2_ok nmX2 hown hK.1 hP hD hS 0 rfl rfl 3 (by decide) (hts (.fieldLink RX2 25 "AltimeterWatch$Marks" "count" "I") (by decide +kernel)) (fun _ h9 => h9) rfl (by decide +kernel) rfl rfl (Nat.le_of_ble_eq_true rfl) dX2_add_116 (fun H locs hP hD hS => ?_)
    have hP : va_P E.1 vwCl ([[(h0, .inr (1, [.ref a0, .ref b0, .ref d0, .int f_2]))], [(a0, .inl (E.2 0, 10, .inl (upd (m_up 10 f) 9 x)))], [(b0, .inl (E.2 0, 10, .inl (upd (m_up 10 g) 9 y)))], [(d0, .inl (E.2 0, 10, .inl (upd (m_up 10 k) 9 z)))]] : List va_W).flatten H := hP
    have hD : va_D A ([[(h0, .inr (1, [.ref a0, .ref b0, .ref d0, .int f_2]))], [(a0, .inl (E.2 0, 10, .inl (upd (m_up 10 f) 9 x)))], [(b0, .inl (E.2 0, 10, .inl (upd (m_up 10 g) 9 y)))], [(d0, .inl (E.2 0, 10, .inl (upd (m_up 10 k) 9 z)))]] : List va_W).flatten := hD
    have hP : va_P E.1 vwCl ([[(h0, .inr (1, [.ref a0, .ref b0, .ref d0, .int f_2]))], [(a0, .inl (E.2 0, 10, .inl (upd (m_up 10 f) 9 x)))], [(b0, .inl (E.2 0, 10, .inl (upd (m_up 10 g) 9 y)))], [(d0, .inl (E.2 0, 10, .inl (upd (m_up 10 k) 9 z)))]] : List va_W).flatten H := zf_sub hP [0, 1, 2, 3] rfl
    have hD : va_D A ([[(h0, .inr (1, [.ref a0, .ref b0, .ref d0, .int f_2]))], [(a0, .inl (E.2 0, 10, .inl (upd (m_up 10 f) 9 x)))], [(b0, .inl (E.2 0, 10, .inl (upd (m_up 10 g) 9 y)))], [(d0, .inl (E.2 0, 10, .inl (upd (m_up 10 k) 9 z)))]] : List va_W).flatten := zf_subD hD [0, 1, 2, 3] (by decide) rfl
    exact W.vret hx hb hr (z_end hP hD hS (by rw [m_kn, m_kf, m_kf, m_kf, if_neg c_6, if_neg c_6, if_neg c_6, if_neg c_6, ef_2]; rfl)) hS.2.2 dX2_add_119 hlocks

set_option maxHeartbeats 4000000 in
set_option maxRecDepth 100000 in
theorem c_X2_timeOf (l : Launch) (E : zE) (h0 a0 b0 d0 : Nat) (c0 x : Int32) (f g k : Nat → Int32) : zR l yX2_timeOf wsX2_timeOf ({ frames := 1, cells := 0, slots := 0, locals := 21 }) E [.ref h0, .int x] ([[(h0, .inr (1, [.ref a0, .ref b0, .ref d0, .int c0]))], [(a0, .inl (E.2 0, 10, .inl f))], [(b0, .inl (E.2 0, 10, .inl g))], [(d0, .inl (E.2 0, 10, .inl k))]] : List va_W).flatten (some (.int (m_el 10 f x))) := by
  refine z_startr (cc := cX2_timeOf) (maxL := 2) (ret := (some .int)) (by decide) rfl (Nat.le_of_ble_eq_true rfl) ?_
  intro Pg En s Mi below meth Cd hx hb hr hts hown hlocks hml hP hK ls hl
  have hl : lv_has ls 2 [(0, .ref h0), (1, .int x)] := hl
  have hi_X2 : ∀ w ∈ wsX20, w ∈ wsX2_timeOf := by decide +kernel
  refine lv_aload_n hx hb dX2_timeOf_0 rfl (lv_at hl 0 rfl) ?_
  refine va_get (D := E.1) (ci := 1) (v := .ref a0) (C := RX2) (T := TX2) (N := 4) hx hb hts hi_X2 hown hK.1 hP 0 rfl rfl 0 (by decide) (hts (.fieldLink RX2 9 "AltimeterWatch$Marks" "times" "[I") (by decide +kernel)) (fun _ h9 => h9) rfl dX2_timeOf_1 ?_
  refine lv_iload_n hx hb dX2_timeOf_4 rfl (lv_at hl 1 rfl) ?_
  have hPc : va_P E.1 vwCl ([[(a0, .inl (E.2 0, 10, .inl f))]] : List va_W).flatten s.heap := zf_sub hP [1] rfl
  refine z_rdv (va_runSN (As := [.ref a0, .int x]) (rest := []) ⟨hx, hb, hml, hown, hts⟩ (c_X9_elementOf l E a0 10 f x (by decide)) (⟨va_cnB 2 hts gX2_timeOf_X9_elementOf_n33 rfl rfl rfl (hK.2.2.2.2.2.2.2.1) (hts (.initialized RX9) (by decide +kernel)) (by decide +kernel) ⟨Nat.le_of_ble_eq_true rfl, Nat.le_of_ble_eq_true rfl⟩, hts (.static yX9_elementOf) (by decide +kernel), trivial⟩) ⟨zPr.blind, z_prer hK hPc⟩ rfl rfl hl.1 rfl (lv_room (Nat.le_of_ble_eq_true rfl)) dX2_timeOf_5 ⟨Nat.le_of_ble_eq_true rfl, Nat.le_of_ble_eq_true rfl⟩) ?_
  refine W.eq (g2 := F0 Mi 8 ls [.int (m_el 10 f x)]) rfl ?_
  exact W.iret (v := (m_el 10 f x)) hx hb hr z_endR (fun _ h => by cases h) dX2_timeOf_8 hlocks

set_option maxHeartbeats 4000000 in
set_option maxRecDepth 100000 in
theorem c_X2_heightOf (l : Launch) (E : zE) (h0 a0 b0 d0 : Nat) (c0 x : Int32) (f g k : Nat → Int32) : zR l yX2_heightOf wsX2_heightOf ({ frames := 1, cells := 0, slots := 0, locals := 21 }) E [.ref h0, .int x] ([[(h0, .inr (1, [.ref a0, .ref b0, .ref d0, .int c0]))], [(a0, .inl (E.2 0, 10, .inl f))], [(b0, .inl (E.2 0, 10, .inl g))], [(d0, .inl (E.2 0, 10, .inl k))]] : List va_W).flatten (some (.int (m_el 10 g x))) := by
  refine z_startr (cc := cX2_heightOf) (maxL := 2) (ret := (some .int)) (by decide) rfl (Nat.le_of_ble_eq_true rfl) ?_
  intro Pg En s Mi below meth Cd hx hb hr hts hown hlocks hml hP hK ls hl
  have hl : lv_has ls 2 [(0, .ref h0), (1, .int x)] := hl
  have hi_X2 : ∀ w ∈ wsX20, w ∈ wsX2_heightOf := by decide +kernel
  refine lv_aload_n hx hb dX2_heightOf_0 rfl (lv_at hl 0 rfl) ?_
  refine va_get (D := E.1) (ci := 1) (v := .ref b0) (C := RX2) (T := TX2) (N := 4) hx hb hts hi_X2 hown hK.1 hP 0 rfl rfl 1 (by decide) (hts (.fieldLink RX2 15 "AltimeterWatch$Marks" "heights" "[I") (by decide +kernel)) (fun _ h9 => h9) rfl dX2_heightOf_1 ?_
  refine lv_iload_n hx hb dX2_heightOf_4 rfl (lv_at hl 1 rfl) ?_
  have hPc : va_P E.1 vwCl ([[(b0, .inl (E.2 0, 10, .inl g))]] : List va_W).flatten s.heap := zf_sub hP [2] rfl
  refine z_rdv (va_runSN (As := [.ref b0, .int x]) (rest := []) ⟨hx, hb, hml, hown, hts⟩ (c_X9_elementOf l E b0 10 g x (by decide)) (⟨va_cnB 2 hts gX2_heightOf_X9_elementOf_n33 rfl rfl rfl (hK.2.2.2.2.2.2.2.1) (hts (.initialized RX9) (by decide +kernel)) (by decide +kernel) ⟨Nat.le_of_ble_eq_true rfl, Nat.le_of_ble_eq_true rfl⟩, hts (.static yX9_elementOf) (by decide +kernel), trivial⟩) ⟨zPr.blind, z_prer hK hPc⟩ rfl rfl hl.1 rfl (lv_room (Nat.le_of_ble_eq_true rfl)) dX2_heightOf_5 ⟨Nat.le_of_ble_eq_true rfl, Nat.le_of_ble_eq_true rfl⟩) ?_
  refine W.eq (g2 := F0 Mi 8 ls [.int (m_el 10 g x)]) rfl ?_
  exact W.iret (v := (m_el 10 g x)) hx hb hr z_endR (fun _ h => by cases h) dX2_heightOf_8 hlocks

set_option maxHeartbeats 4000000 in
set_option maxRecDepth 100000 in
theorem c_X2_ascentOf (l : Launch) (E : zE) (h0 a0 b0 d0 : Nat) (c0 x : Int32) (f g k : Nat → Int32) : zR l yX2_ascentOf wsX2_ascentOf ({ frames := 1, cells := 0, slots := 0, locals := 21 }) E [.ref h0, .int x] ([[(h0, .inr (1, [.ref a0, .ref b0, .ref d0, .int c0]))], [(a0, .inl (E.2 0, 10, .inl f))], [(b0, .inl (E.2 0, 10, .inl g))], [(d0, .inl (E.2 0, 10, .inl k))]] : List va_W).flatten (some (.int (m_el 10 k x))) := by
  refine z_startr (cc := cX2_ascentOf) (maxL := 2) (ret := (some .int)) (by decide) rfl (Nat.le_of_ble_eq_true rfl) ?_
  intro Pg En s Mi below meth Cd hx hb hr hts hown hlocks hml hP hK ls hl
  have hl : lv_has ls 2 [(0, .ref h0), (1, .int x)] := hl
  have hi_X2 : ∀ w ∈ wsX20, w ∈ wsX2_ascentOf := by decide +kernel
  refine lv_aload_n hx hb dX2_ascentOf_0 rfl (lv_at hl 0 rfl) ?_
  refine va_get (D := E.1) (ci := 1) (v := .ref d0) (C := RX2) (T := TX2) (N := 4) hx hb hts hi_X2 hown hK.1 hP 0 rfl rfl 2 (by decide) (hts (.fieldLink RX2 18 "AltimeterWatch$Marks" "ascents" "[I") (by decide +kernel)) (fun _ h9 => h9) rfl dX2_ascentOf_1 ?_
  refine lv_iload_n hx hb dX2_ascentOf_4 rfl (lv_at hl 1 rfl) ?_
  have hPc : va_P E.1 vwCl ([[(d0, .inl (E.2 0, 10, .inl k))]] : List va_W).flatten s.heap := zf_sub hP [3] rfl
  refine z_rdv (va_runSN (As := [.ref d0, .int x]) (rest := []) ⟨hx, hb, hml, hown, hts⟩ (c_X9_elementOf l E d0 10 k x (by decide)) (⟨va_cnB 2 hts gX2_ascentOf_X9_elementOf_n33 rfl rfl rfl (hK.2.2.2.2.2.2.2.1) (hts (.initialized RX9) (by decide +kernel)) (by decide +kernel) ⟨Nat.le_of_ble_eq_true rfl, Nat.le_of_ble_eq_true rfl⟩, hts (.static yX9_elementOf) (by decide +kernel), trivial⟩) ⟨zPr.blind, z_prer hK hPc⟩ rfl rfl hl.1 rfl (lv_room (Nat.le_of_ble_eq_true rfl)) dX2_ascentOf_5 ⟨Nat.le_of_ble_eq_true rfl, Nat.le_of_ble_eq_true rfl⟩) ?_
  refine W.eq (g2 := F0 Mi 8 ls [.int (m_el 10 k x)]) rfl ?_
  exact W.iret (v := (m_el 10 k x)) hx hb hr z_endR (fun _ h => by cases h) dX2_ascentOf_8 hlocks

