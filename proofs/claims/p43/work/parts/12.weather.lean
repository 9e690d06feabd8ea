set_option maxHeartbeats 4000000 in
set_option maxRecDepth 100000 in
theorem c_X8_init (l : Launch) (E : zE) (h0 : Nat) (c0 l0 b0 w0 : Int32) : zX l yX8_init wsX8_init ({ frames := 1, cells := 1, slots := 60, locals := 20 }) E [.ref h0] ([[(h0, .inr (7, [.null, .int c0, .int l0, .int b0, .int w0]))]] : List va_W).flatten none (fun u : Nat => ([[(h0, .inr (7, [.ref u, .int c0, .int 40, .int b0, .int w0]))], [(u, .inl (E.2 0, 60, .inl (fun _ => 0)))]] : List va_W).flatten) 1 60 := by
  refine z_startx (cc := cX8_init) (maxL := 1) (ret := none) (by decide) rfl (Nat.le_of_ble_eq_true rfl) ?_
  intro Pg En s Mi below meth Cd A hx hb hr hts hown hlocks hin hml hA H hH hP hK hD hS ls hl
  have hl : lv_has ls 1 [(0, .ref h0)] := hl
  have hi_X8 : ∀ w ∈ wsX80, w ∈ wsX8_init := by decide +kernel
  refine lv_aload_n hx hb dX8_init_0 rfl (lv_at hl 0 rfl) ?_
  refine W.objInit hx hb hown (hts (.methodLink RX8 3 objectInit) (by decide +kernel)) (hts (.instanceMethod objectInit) (by decide +kernel)) (hts (.code objectInit ⟨#[0xb1]⟩ 1 none) (by decide +kernel)) rfl (by rw [hml]; exact hl.1) rfl dX8_init_1 (Nat.le_of_ble_eq_true rfl) (Nat.le_of_ble_eq_true rfl) ?_
  refine W.eq (g2 := F0 Mi 4 ls []) rfl ?_
  refine lv_aload_n hx hb dX8_init_4 rfl (lv_at hl 0 rfl) ?_
  refine lv_bipush (v := 60) hx hb dX8_init_5 (by decide) ?_
  refine va_newa (D := E.1) (atype := .int) (ty := .int) (N' := 60) (a0 := (60, .inl (fun _ => 0))) hx hb (hts (.arrayClass .int) (by decide +kernel)) rfl hK.1 hP hD hS hA (fun _ => rfl) (by decide) (by decide +kernel) (by decide +kernel) (Nat.le_of_ble_eq_true rfl) (Nat.le_of_ble_eq_true rfl) dX8_init_7 (fun q_7 cA H hK9 hP hD hS => ?_)
  have eA := z_cy0 hK9
  subst eA
  have hP : va_P E.1 vwCl ([[(h0, .inr (7, [.null, .int c0, .int l0, .int b0, .int w0]))], [(q_7, .inl (E.2 0, 60, .inl (fun _ => 0)))]] : List va_W).flatten H := hP
  have hD : va_D A ([[(h0, .inr (7, [.null, .int c0, .int l0, .int b0, .int w0]))], [(q_7, .inl (E.2 0, 60, .inl (fun _ => 0)))]] : List va_W).flatten := hD
  refine W.widen (k := 1) (n := 60) (by decide) (by decide) ?_
  refine va_putF (D := E.1) (ci := 7) (v := .ref q_7) (ty := .array .int) (C := RX8) (T := TX8) (N := 5) hx hb hts hi_X8 tyX8 tyX8_ok nmX8 hown hK.1 hP hD hS 0 rfl rfl 0 (by decide) (hts (.fieldLink RX8 9 "AltimeterWatch$Weather" "pressures" "[I") (by decide +kernel)) (fun _ h9 => h9) rfl hin rfl (by decide +kernel) rfl rfl (Nat.le_of_ble_eq_true rfl) dX8_init_9 (fun H locs hP hD hS => ?_)
  have hP : va_P E.1 vwCl ([[(h0, .inr (7, [.ref q_7, .int c0, .int l0, .int b0, .int w0]))], [(q_7, .inl (E.2 0, 60, .inl (fun _ => 0)))]] : List va_W).flatten H := hP
  have hD : va_D A ([[(h0, .inr (7, [.ref q_7, .int c0, .int l0, .int b0, .int w0]))], [(q_7, .inl (E.2 0, 60, .inl (fun _ => 0)))]] : List va_W).flatten := hD
  refine lv_aload_n hx hb dX8_init_12 rfl (lv_at hl 0 rfl) ?_
  refine lv_bipush (v := 40) hx hb dX8_init_13 (by decide) ?_
  refine va_put (D := E.1) (ci := 7) (v := .int 40) (ty := .int) (C := RX8) (T := TX8) (N := 5) hx hb hts hi_X8 tyX8 tyX8_ok nmX8 hown hK.1 hP hD hS 0 rfl rfl 2 (by decide) (hts (.fieldLink RX8 15 "AltimeterWatch$Weather" "limit" "I") (by decide +kernel)) (fun _ h9 => h9) rfl (by decide +kernel) rfl rfl (Nat.le_of_ble_eq_true rfl) dX8_init_15 (fun H locs hP hD hS => ?_)
  have hP : va_P E.1 vwCl ([[(h0, .inr (7, [.ref q_7, .int c0, .int 40, .int b0, .int w0]))], [(q_7, .inl (E.2 0, 60, .inl (fun _ => 0)))]] : List va_W).flatten H := hP
  have hD : va_D A ([[(h0, .inr (7, [.ref q_7, .int c0, .int 40, .int b0, .int w0]))], [(q_7, .inl (E.2 0, 60, .inl (fun _ => 0)))]] : List va_W).flatten := hD
  have hP : va_P E.1 vwCl ([[(h0, .inr (7, [.ref q_7, .int c0, .int 40, .int b0, .int w0]))], [(q_7, .inl (E.2 0, 60, .inl (fun _ => 0)))]] : List va_W).flatten H := zf_sub hP [0, 1] rfl
  have hD : va_D A ([[(h0, .inr (7, [.ref q_7, .int c0, .int 40, .int b0, .int w0]))], [(q_7, .inl (E.2 0, 60, .inl (fun _ => 0)))]] : List va_W).flatten := zf_subD hD [0, 1] (by decide) rfl
  exact W.vret hx hb hr (z_endx (w1 := (fun u : Nat => ([[(h0, .inr (7, [.ref u, .int c0, .int 40, .int b0, .int w0]))], [(u, .inl (E.2 0, 60, .inl (fun _ => 0)))]] : List va_W).flatten)) q_7 hP hD hS rfl) hS.2.2 dX8_init_18 hlocks

set_option maxHeartbeats 4000000 in
set_option maxRecDepth 100000 in
theorem c_X8_copyFrom (l : Launch) (E : zE) (h0 a0 h1 a1 : Nat) (c0 l0 b0 w0 c1 l1 b1 w1 : Int32) (f g : Nat → Int32) (hw : w1 = 0 ∨ w1 = 1) : zM l yX8_copyFrom wsX8_copyFrom ({ frames := 2, cells := 0, slots := 0, locals := 47 }) E [.ref h0, .ref h1] ([[(h0, .inr (7, [.ref a0, .int c0, .int l0, .int b0, .int w0]))], [(a0, .inl (E.2 0, 60, .inl f))], [(h1, .inr (7, [.ref a1, .int c1, .int l1, .int b1, .int w1]))], [(a1, .inl (E.2 0, 60, .inl g))]] : List va_W).flatten none ([[(h0, .inr (7, [.ref a0, .int c1, .int l1, .int b1, .int w1]))], [(a0, .inl (E.2 0, 60, .inl (m_cp 60 g f)))], [(h1, .inr (7, [.ref a1, .int c1, .int l1, .int b1, .int w1]))], [(a1, .inl (E.2 0, 60, .inl g))]] : List va_W).flatten 0 0 := by
  refine z_start (cc := cX8_copyFrom) (maxL := 2) (ret := none) (by decide) rfl (Nat.le_of_ble_eq_true rfl) ?_
  intro Pg En s Mi below meth Cd A hx hb hr hts hown hlocks hin hml hA H hH hP hK hD hS ls hl
  have hl : lv_has ls 2 [(0, .ref h0), (1, .ref h1)] := hl
  have hi_X8 : ∀ w ∈ wsX80, w ∈ wsX8_copyFrom := by decide +kernel
  refine lv_aload_n hx hb dX8_copyFrom_0 rfl (lv_at hl 1 rfl) ?_
  refine va_get (D := E.1) (ci := 7) (v := .ref a1) (C := RX8) (T := TX8) (N := 5) hx hb hts hi_X8 hown hK.1 hP 2 rfl rfl 0 (by decide) (hts (.fieldLink RX8 9 "AltimeterWatch$Weather" "pressures" "[I") (by decide +kernel)) (fun _ h9 => h9) rfl dX8_copyFrom_1 ?_
  refine lv_aload_n hx hb dX8_copyFrom_4 rfl (lv_at hl 0 rfl) ?_
  refine va_get (D := E.1) (ci := 7) (v := .ref a0) (C := RX8) (T := TX8) (N := 5) hx hb hts hi_X8 hown hK.1 hP 0 rfl rfl 0 (by decide) (hts (.fieldLink RX8 9 "AltimeterWatch$Weather" "pressures" "[I") (by decide +kernel)) (fun _ h9 => h9) rfl dX8_copyFrom_5 ?_
  have hPc : va_P E.1 vwCl ([[(a1, .inl (E.2 0, 60, .inl g))], [(a0, .inl (E.2 0, 60, .inl f))]] : List va_W).flatten H := zf_sub hP [3, 1] rfl
  have hDc : va_D A ([[(a1, .inl (E.2 0, 60, .inl g))], [(a0, .inl (E.2 0, 60, .inl f))]] : List va_W).flatten := zf_subD hD [3, 1] (by decide) rfl
  refine z_mut (Sc := [[(a1, .inl (E.2 0, 60, .inl g))], [(a0, .inl (E.2 0, 60, .inl f))]]) (Sr := [[(h0, .inr (7, [.ref a0, .int c0, .int l0, .int b0, .int w0]))], [(h1, .inr (7, [.ref a1, .int c1, .int l1, .int b1, .int w1]))]]) (W1 := [[(a1, .inl (E.2 0, 60, .inl g))], [(a0, .inl (E.2 0, 60, .inl (m_cp 60 g f)))]]) (va_runSN (As := [.ref a1, .ref a0]) (rest := []) ⟨hx, hb, hml, hown, hts⟩ (c_X9_copyRow l E a1 a0 60 g f (by decide) H.size) (⟨va_cnB 2 hts gX8_copyFrom_X9_copyRow_n19 rfl rfl rfl (hK.2.2.2.2.2.2.2.2.2.2.2.2.2.1) (hts (.initialized RX9) (by decide +kernel)) (by decide +kernel) ⟨Nat.le_of_ble_eq_true rfl, Nat.le_of_ble_eq_true rfl⟩, hts (.static yX9_copyRow) (by decide +kernel), trivial⟩) ⟨zP.blind, z_pre hK hPc hDc⟩ rfl rfl hl.1 rfl (lv_room (Nat.le_of_ble_eq_true rfl)) dX8_copyFrom_8 ⟨Nat.le_of_ble_eq_true rfl, Nat.le_of_ble_eq_true rfl⟩) hP hD hS hA [3, 1] [0, 2] rfl rfl (by decide) (by decide) (fun H locs hP hD hS => ?_)
  have hP : va_P E.1 vwCl ([[(h0, .inr (7, [.ref a0, .int c0, .int l0, .int b0, .int w0]))], [(h1, .inr (7, [.ref a1, .int c1, .int l1, .int b1, .int w1]))], [(a1, .inl (E.2 0, 60, .inl g))], [(a0, .inl (E.2 0, 60, .inl (m_cp 60 g f)))]] : List va_W).flatten H := hP
  have hD : va_D A ([[(h0, .inr (7, [.ref a0, .int c0, .int l0, .int b0, .int w0]))], [(h1, .inr (7, [.ref a1, .int c1, .int l1, .int b1, .int w1]))], [(a1, .inl (E.2 0, 60, .inl g))], [(a0, .inl (E.2 0, 60, .inl (m_cp 60 g f)))]] : List va_W).flatten := hD
  refine W.eq (g2 := F0 Mi 11 ls []) rfl ?_
  refine lv_aload_n hx hb dX8_copyFrom_11 rfl (lv_at hl 0 rfl) ?_
  refine lv_aload_n hx hb dX8_copyFrom_12 rfl (lv_at hl 1 rfl) ?_
  refine va_get (D := E.1) (ci := 7) (v := .int c1) (C := RX8) (T := TX8) (N := 5) hx hb hts hi_X8 hown hK.1 hP 1 rfl rfl 1 (by decide) (hts (.fieldLink RX8 23 "AltimeterWatch$Weather" "count" "I") (by decide +kernel)) (fun _ h9 => h9) rfl dX8_copyFrom_13 ?_
  refine va_put (D := E.1) (ci := 7) (v := .int c1) (ty := .int) (C := RX8) (T := TX8) (N := 5) hx hb hts hi_X8 tyX8 tyX8_ok nmX8 hown hK.1 hP hD hS 0 rfl rfl 1 (by decide) (hts (.fieldLink RX8 23 "AltimeterWatch$Weather" "count" "I") (by decide +kernel)) (fun _ h9 => h9) rfl (by decide +kernel) rfl rfl (Nat.le_of_ble_eq_true rfl) dX8_copyFrom_16 (fun H locs hP hD hS => ?_)
  have hP : va_P E.1 vwCl ([[(h0, .inr (7, [.ref a0, .int c1, .int l0, .int b0, .int w0]))], [(h1, .inr (7, [.ref a1, .int c1, .int l1, .int b1, .int w1]))], [(a1, .inl (E.2 0, 60, .inl g))], [(a0, .inl (E.2 0, 60, .inl (m_cp 60 g f)))]] : List va_W).flatten H := hP
  have hD : va_D A ([[(h0, .inr (7, [.ref a0, .int c1, .int l0, .int b0, .int w0]))], [(h1, .inr (7, [.ref a1, .int c1, .int l1, .int b1, .int w1]))], [(a1, .inl (E.2 0, 60, .inl g))], [(a0, .inl (E.2 0, 60, .inl (m_cp 60 g f)))]] : List va_W).flatten := hD
  refine lv_aload_n hx hb dX8_copyFrom_19 rfl (lv_at hl 0 rfl) ?_
  refine lv_aload_n hx hb dX8_copyFrom_20 rfl (lv_at hl 1 rfl) ?_
  refine va_get (D := E.1) (ci := 7) (v := .int l1) (C := RX8) (T := TX8) (N := 5) hx hb hts hi_X8 hown hK.1 hP 1 rfl rfl 2 (by decide) (hts (.fieldLink RX8 15 "AltimeterWatch$Weather" "limit" "I") (by decide +kernel)) (fun _ h9 => h9) rfl dX8_copyFrom_21 ?_
  refine va_put (D := E.1) (ci := 7) (v := .int l1) (ty := .int) (C := RX8) (T := TX8) (N := 5) hx hb hts hi_X8 tyX8 tyX8_ok nmX8 hown hK.1 hP hD hS 0 rfl rfl 2 (by decide) (hts (.fieldLink RX8 15 "AltimeterWatch$Weather" "limit" "I") (by decide +kernel)) (fun _ h9 => h9) rfl (by decide +kernel) rfl rfl (Nat.le_of_ble_eq_true rfl) dX8_copyFrom_24 (fun H locs hP hD hS => ?_)
  have hP : va_P E.1 vwCl ([[(h0, .inr (7, [.ref a0, .int c1, .int l1, .int b0, .int w0]))], [(h1, .inr (7, [.ref a1, .int c1, .int l1, .int b1, .int w1]))], [(a1, .inl (E.2 0, 60, .inl g))], [(a0, .inl (E.2 0, 60, .inl (m_cp 60 g f)))]] : List va_W).flatten H := hP
  have hD : va_D A ([[(h0, .inr (7, [.ref a0, .int c1, .int l1, .int b0, .int w0]))], [(h1, .inr (7, [.ref a1, .int c1, .int l1, .int b1, .int w1]))], [(a1, .inl (E.2 0, 60, .inl g))], [(a0, .inl (E.2 0, 60, .inl (m_cp 60 g f)))]] : List va_W).flatten := hD
  refine lv_aload_n hx hb dX8_copyFrom_27 rfl (lv_at hl 0 rfl) ?_
  refine lv_aload_n hx hb dX8_copyFrom_28 rfl (lv_at hl 1 rfl) ?_
  refine va_get (D := E.1) (ci := 7) (v := .int b1) (C := RX8) (T := TX8) (N := 5) hx hb hts hi_X8 hown hK.1 hP 1 rfl rfl 3 (by decide) (hts (.fieldLink RX8 26 "AltimeterWatch$Weather" "begun" "I") (by decide +kernel)) (fun _ h9 => h9) rfl dX8_copyFrom_29 ?_
  refine va_put (D := E.1) (ci := 7) (v := .int b1) (ty := .int) (C := RX8) (T := TX8) (N := 5) hx hb hts hi_X8 tyX8 tyX8_ok nmX8 hown hK.1 hP hD hS 0 rfl rfl 3 (by decide) (hts (.fieldLink RX8 26 "AltimeterWatch$Weather" "begun" "I") (by decide +kernel)) (fun _ h9 => h9) rfl (by decide +kernel) rfl rfl (Nat.le_of_ble_eq_true rfl) dX8_copyFrom_32 (fun H locs hP hD hS => ?_)
  have hP : va_P E.1 vwCl ([[(h0, .inr (7, [.ref a0, .int c1, .int l1, .int b1, .int w0]))], [(h1, .inr (7, [.ref a1, .int c1, .int l1, .int b1, .int w1]))], [(a1, .inl (E.2 0, 60, .inl g))], [(a0, .inl (E.2 0, 60, .inl (m_cp 60 g f)))]] : List va_W).flatten H := hP
  have hD : va_D A ([[(h0, .inr (7, [.ref a0, .int c1, .int l1, .int b1, .int w0]))], [(h1, .inr (7, [.ref a1, .int c1, .int l1, .int b1, .int w1]))], [(a1, .inl (E.2 0, 60, .inl g))], [(a0, .inl (E.2 0, 60, .inl (m_cp 60 g f)))]] : List va_W).flatten := hD
  refine lv_aload_n hx hb dX8_copyFrom_35 rfl (lv_at hl 0 rfl) ?_
  refine lv_aload_n hx hb dX8_copyFrom_36 rfl (lv_at hl 1 rfl) ?_
  refine va_get (D := E.1) (ci := 7) (v := .int w1) (C := RX8) (T := TX8) (N := 5) hx hb hts hi_X8 hown hK.1 hP 1 rfl rfl 4 (by decide) (hts (.fieldLink RX8 29 "AltimeterWatch$Weather" "alarmAfterLastMinute" "Z") (by decide +kernel)) (fun _ h9 => h9) rfl dX8_copyFrom_37 ?_
  refine va_put (D := E.1) (ci := 7) (v := .int w1) (ty := .boolean) (C := RX8) (T := TX8) (N := 5) hx hb hts hi_X8 tyX8 tyX8_ok nmX8 hown hK.1 hP hD hS 0 rfl rfl 4 (by decide) (hts (.fieldLink RX8 29 "AltimeterWatch$Weather" "alarmAfterLastMinute" "Z") (by decide +kernel)) (fun _ h9 => h9) rfl (by decide +kernel) (z_bool hw) (z_fit hw) (Nat.le_of_ble_eq_true rfl) dX8_copyFrom_40 (fun H locs hP hD hS => ?_)
  have hP : va_P E.1 vwCl ([[(h0, .inr (7, [.ref a0, .int c1, .int l1, .int b1, .int w1]))], [(h1, .inr (7, [.ref a1, .int c1, .int l1, .int b1, .int w1]))], [(a1, .inl (E.2 0, 60, .inl g))], [(a0, .inl (E.2 0, 60, .inl (m_cp 60 g f)))]] : List va_W).flatten H := hP
  have hD : va_D A ([[(h0, .inr (7, [.ref a0, .int c1, .int l1, .int b1, .int w1]))], [(h1, .inr (7, [.ref a1, .int c1, .int l1, .int b1, .int w1]))], [(a1, .inl (E.2 0, 60, .inl g))], [(a0, .inl (E.2 0, 60, .inl (m_cp 60 g f)))]] : List va_W).flatten := hD
  have hP : va_P E.1 vwCl ([[(h0, .inr (7, [.ref a0, .int c1, .int l1, .int b1, .int w1]))], [(a0, .inl (E.2 0, 60, .inl (m_cp 60 g f)))], [(h1, .inr (7, [.ref a1, .int c1, .int l1, .int b1, .int w1]))], [(a1, .inl (E.2 0, 60, .inl g))]] : List va_W).flatten H := zf_sub hP [0, 3, 1, 2] rfl
  have hD : va_D A ([[(h0, .inr (7, [.ref a0, .int c1, .int l1, .int b1, .int w1]))], [(a0, .inl (E.2 0, 60, .inl (m_cp 60 g f)))], [(h1, .inr (7, [.ref a1, .int c1, .int l1, .int b1, .int w1]))], [(a1, .inl (E.2 0, 60, .inl g))]] : List va_W).flatten := zf_subD hD [0, 3, 1, 2] (by decide) rfl
  exact W.vret hx hb hr (z_end hP hD hS rfl) hS.2.2 dX8_copyFrom_43 hlocks

set_option maxHeartbeats 4000000 in
set_option maxRecDepth 100000 in
theorem c_X8_empty (l : Launch) (E : zE) (h0 a0 : Nat) (c0 l0 b0 w0 : Int32) : zM l yX8_empty wsX8_empty ({ frames := 0, cells := 0, slots := 0, locals := 0 }) E [.ref h0] ([[(h0, .inr (7, [.ref a0, .int c0, .int l0, .int b0, .int w0]))]] : List va_W).flatten none ([[(h0, .inr (7, [.ref a0, .int 0, .int l0, .int b0, .int 0]))]] : List va_W).flatten 0 0 := by
  refine z_start (cc := cX8_empty) (maxL := 1) (ret := none) (by decide) rfl (Nat.le_of_ble_eq_true rfl) ?_
  intro Pg En s Mi below meth Cd A hx hb hr hts hown hlocks hin hml hA H hH hP hK hD hS ls hl
  have hl : lv_has ls 1 [(0, .ref h0)] := hl
  have hi_X8 : ∀ w ∈ wsX80, w ∈ wsX8_empty := by decide +kernel
  refine lv_aload_n hx hb dX8_empty_0 rfl (lv_at hl 0 rfl) ?_
  refine lv_iconst (v := 0) hx hb dX8_empty_1 (by decide) ?_
  refine va_put (D := E.1) (ci := 7) (v := .int 0) (ty := .int) (C := RX8) (T := TX8) (N := 5) hx hb hts hi_X8 tyX8 tyX8_ok nmX8 hown hK.1 hP hD hS 0 rfl rfl 1 (by decide) (hts (.fieldLink RX8 23 "AltimeterWatch$Weather" "count" "I") (by decide +kernel)) (fun _ h9 => h9) rfl (by decide +kernel) rfl rfl (Nat.le_of_ble_eq_true rfl) dX8_empty_2 (fun H locs hP hD hS => ?_)
  have hP : va_P E.1 vwCl ([[(h0, .inr (7, [.ref a0, .int 0, .int l0, .int b0, .int w0]))]] : List va_W).flatten H := hP
  have hD : va_D A ([[(h0, .inr (7, [.ref a0, .int 0, .int l0, .int b0, .int w0]))]] : List va_W).flatten := hD
  refine lv_aload_n hx hb dX8_empty_5 rfl (lv_at hl 0 rfl) ?_
  refine lv_iconst (v := 0) hx hb dX8_empty_6 (by decide) ?_
  refine va_put (D := E.1) (ci := 7) (v := .int 0) (ty := .boolean) (C := RX8) (T := TX8) (N := 5) hx hb hts hi_X8 tyX8 tyX8_ok nmX8 hown hK.1 hP hD hS 0 rfl rfl 4 (by decide) (hts (.fieldLink RX8 29 "AltimeterWatch$Weather" "alarmAfterLastMinute" "Z") (by decide +kernel)) (fun _ h9 => h9) rfl (by decide +kernel) rfl rfl (Nat.le_of_ble_eq_true rfl) dX8_empty_7 (fun H locs hP hD hS => ?_)
  have hP : va_P E.1 vwCl ([[(h0, .inr (7, [.ref a0, .int 0, .int l0, .int b0, .int 0]))]] : List va_W).flatten H := hP
  have hD : va_D A ([[(h0, .inr (7, [.ref a0, .int 0, .int l0, .int b0, .int 0]))]] : List va_W).flatten := hD
  have hP : va_P E.1 vwCl ([[(h0, .inr (7, [.ref a0, .int 0, .int l0, .int b0, .int 0]))]] : List va_W).flatten H := zf_sub hP [0] rfl
  have hD : va_D A ([[(h0, .inr (7, [.ref a0, .int 0, .int l0, .int b0, .int 0]))]] : List va_W).flatten := zf_subD hD [0] (by decide) rfl
  exact W.vret hx hb hr (z_end hP hD hS rfl) hS.2.2 dX8_empty_10 hlocks

def m_ln (c : Int32) : Int32 := if c < 60 then c + 1 else 60
def m_lf (c : Int32) (f : Nat → Int32) (x : Int32) : Nat → Int32 := if c < 60 then upd f c.toNatClampNeg x else upd (m_up 60 f) 59 x

set_option maxHeartbeats 4000000 in
set_option maxRecDepth 100000 in
theorem c_X8_log (l : Launch) (E : zE) (h0 a0 cn : Nat) (c0 l0 b0 w0 x : Int32) (f : Nat → Int32) (hc : c0 = nI cn) (hcn : cn ≤ 60) : zM l yX8_log wsX8_log ({ frames := 1, cells := 0, slots := 0, locals := 21 }) E [.ref h0, .int x] ([[(h0, .inr (7, [.ref a0, .int c0, .int l0, .int b0, .int w0]))], [(a0, .inl (E.2 0, 60, .inl f))]] : List va_W).flatten none ([[(h0, .inr (7, [.ref a0, .int (m_ln c0), .int l0, .int b0, .int w0]))], [(a0, .inl (E.2 0, 60, .inl (m_lf c0 f x)))]] : List va_W).flatten 0 0 := by
  refine z_start (cc := cX8_log) (maxL := 2) (ret := none) (by decide) rfl (Nat.le_of_ble_eq_true rfl) ?_
  intro Pg En s Mi below meth Cd A hx hb hr hts hown hlocks hin hml hA H hH hP hK hD hS ls hl
  have hl : lv_has ls 2 [(0, .ref h0), (1, .int x)] := hl
  have hi_X8 : ∀ w ∈ wsX80, w ∈ wsX8_log := by decide +kernel
  refine lv_aload_n hx hb dX8_log_0 rfl (lv_at hl 0 rfl) ?_
  refine va_get (D := E.1) (ci := 7) (v := .int c0) (C := RX8) (T := TX8) (N := 5) hx hb hts hi_X8 hown hK.1 hP 0 rfl rfl 1 (by decide) (hts (.fieldLink RX8 23 "AltimeterWatch$Weather" "count" "I") (by decide +kernel)) (fun _ h9 => h9) rfl dX8_log_1 ?_
  refine lv_bipush (v := 60) hx hb dX8_log_4 (by decide) ?_
  refine lv_icmp_lt (tgt := 22) hx hb dX8_log_6 (by decide) (fun c_6 => ?_) (fun c_6 => ?_)
  · refine lv_aload_n hx hb dX8_log_22 rfl (lv_at hl 0 rfl) ?_
    refine va_get (D := E.1) (ci := 7) (v := .int c0) (C := RX8) (T := TX8) (N := 5) hx hb hts hi_X8 hown hK.1 hP 0 rfl rfl 1 (by decide) (hts (.fieldLink RX8 23 "AltimeterWatch$Weather" "count" "I") (by decide +kernel)) (fun _ h9 => h9) rfl dX8_log_23 ?_
    refine lv_if_lt (tgt := 61) hx hb dX8_log_26 (by decide) (fun h9 => absurd h9 ((by rw [hc]; exact nI_pos (by omega)))) (fun _ => ?_)
    refine lv_aload_n hx hb dX8_log_29 rfl (lv_at hl 0 rfl) ?_
    refine va_get (D := E.1) (ci := 7) (v := .int c0) (C := RX8) (T := TX8) (N := 5) hx hb hts hi_X8 hown hK.1 hP 0 rfl rfl 1 (by decide) (hts (.fieldLink RX8 23 "AltimeterWatch$Weather" "count" "I") (by decide +kernel)) (fun _ h9 => h9) rfl dX8_log_30 ?_
    refine lv_aload_n hx hb dX8_log_33 rfl (lv_at hl 0 rfl) ?_
    refine va_get (D := E.1) (ci := 7) (v := .ref a0) (C := RX8) (T := TX8) (N := 5) hx hb hts hi_X8 hown hK.1 hP 0 rfl rfl 0 (by decide) (hts (.fieldLink RX8 9 "AltimeterWatch$Weather" "pressures" "[I") (by decide +kernel)) (fun _ h9 => h9) rfl dX8_log_34 ?_
    refine va_alen (v := 60) hx hb hK.1 hP 1 0 rfl rfl rfl dX8_log_37 ?_
    refine lv_icmp_ge (tgt := 61) hx hb dX8_log_38 (by decide) (fun h9 => absurd h9 ((Int32.not_le.mpr c_6))) (fun _ => ?_)
    refine lv_aload_n hx hb dX8_log_41 rfl (lv_at hl 0 rfl) ?_
    refine va_get (D := E.1) (ci := 7) (v := .ref a0) (C := RX8) (T := TX8) (N := 5) hx hb hts hi_X8 hown hK.1 hP 0 rfl rfl 0 (by decide) (hts (.fieldLink RX8 9 "AltimeterWatch$Weather" "pressures" "[I") (by decide +kernel)) (fun _ h9 => h9) rfl dX8_log_42 ?_
    refine lv_aload_n hx hb dX8_log_45 rfl (lv_at hl 0 rfl) ?_
    refine va_get (D := E.1) (ci := 7) (v := .int c0) (C := RX8) (T := TX8) (N := 5) hx hb hts hi_X8 hown hK.1 hP 0 rfl rfl 1 (by decide) (hts (.fieldLink RX8 23 "AltimeterWatch$Weather" "count" "I") (by decide +kernel)) (fun _ h9 => h9) rfl dX8_log_46 ?_
    refine lv_iload_n hx hb dX8_log_49 rfl (lv_at hl 1 rfl) ?_
    refine z_iast (k := c0.toNatClampNeg) hx hb hK.1 hP hD hS 1 rfl (k_eq (by rw [hc]; exact nI_pos (by omega))) (k_ltc (by rw [hc]; exact nI_pos (by omega)) (Int32.not_le.mpr c_6) (by decide)) (by decide) dX8_log_50 (fun H locs hP hD hS => ?_)
    have hP : va_P E.1 vwCl ([[(h0, .inr (7, [.ref a0, .int c0, .int l0, .int b0, .int w0]))], [(a0, .inl (E.2 0, 60, .inl (upd f c0.toNatClampNeg x)))]] : List va_W).flatten H := hP
    have hD : va_D A ([[(h0, .inr (7, [.ref a0, .int c0, .int l0, .int b0, .int w0]))], [(a0, .inl (E.2 0, 60, .inl (upd f c0.toNatClampNeg x)))]] : List va_W).flatten := hD
    refine lv_aload_n hx hb dX8_log_51 rfl (lv_at hl 0 rfl) ?_
    refine lv_dup hx hb dX8_log_52 rfl ?_
    refine va_get (D := E.1) (ci := 7) (v := .int c0) (C := RX8) (T := TX8) (N := 5) hx hb hts hi_X8 hown hK.1 hP 0 rfl rfl 1 (by decide) (hts (.fieldLink RX8 23 "AltimeterWatch$Weather" "count" "I") (by decide +kernel)) (fun _ h9 => h9) rfl dX8_log_53 ?_
    refine lv_iconst (v := 1) hx hb dX8_log_56 (by decide) ?_
    refine lv_iadd hx hb dX8_log_57 ?_
    refine lv_topi (fun f_1 ef_1 => ?_)
    refine va_put (D := E.1) (ci := 7) (v := .int f_1) (ty := .int) (C := RX8) (T := TX8) (N := 5) hx hb hts hi_X8 tyX8 tyX8_ok nmX8 hown hK.1 hP hD hS 0 rfl rfl 1 (by decide) (hts (.fieldLink RX8 23 "AltimeterWatch$Weather" "count" "I") (by decide +kernel)) (fun _ h9 => h9) rfl (by decide +kernel) rfl rfl (Nat.le_of_ble_eq_true rfl) dX8_log_58 (fun H locs hP hD hS => ?_)
    have hP : va_P E.1 vwCl ([[(h0, .inr (7, [.ref a0, .int f_1, .int l0, .int b0, .int w0]))], [(a0, .inl (E.2 0, 60, .inl (upd f c0.toNatClampNeg x)))]] : List va_W).flatten H := hP
    have hD : va_D A ([[(h0, .inr (7, [.ref a0, .int f_1, .int l0, .int b0, .int w0]))], [(a0, .inl (E.2 0, 60, .inl (upd f c0.toNatClampNeg x)))]] : List va_W).flatten := hD
    have hP : va_P E.1 vwCl ([[(h0, .inr (7, [.ref a0, .int f_1, .int l0, .int b0, .int w0]))], [(a0, .inl (E.2 0, 60, .inl (upd f c0.toNatClampNeg x)))]] : List va_W).flatten H := zf_sub hP [0, 1] rfl
    have hD : va_D A ([[(h0, .inr (7, [.ref a0, .int f_1, .int l0, .int b0, .int w0]))], [(a0, .inl (E.2 0, 60, .inl (upd f c0.toNatClampNeg x)))]] : List va_W).flatten := zf_subD hD [0, 1] (by decide) rfl
    exact W.vret hx hb hr (z_end hP hD hS (by rw [m_ln, m_lf, if_pos c_6, if_pos c_6, ← ef_1])) hS.2.2 dX8_log_61 hlocks
  · refine lv_aload_n hx hb dX8_log_9 rfl (lv_at hl 0 rfl) ?_
    refine va_get (D := E.1) (ci := 7) (v := .ref a0) (C := RX8) (T := TX8) (N := 5) hx hb hts hi_X8 hown hK.1 hP 0 rfl rfl 0 (by decide) (hts (.fieldLink RX8 9 "AltimeterWatch$Weather" "pressures" "[I") (by decide +kernel)) (fun _ h9 => h9) rfl dX8_log_10 ?_
    have hPc : va_P E.1 vwCl ([[(a0, .inl (E.2 0, 60, .inl f))]] : List va_W).flatten H := zf_sub hP [1] rfl
    have hDc : va_D A ([[(a0, .inl (E.2 0, 60, .inl f))]] : List va_W).flatten := zf_subD hD [1] (by decide) rfl
    refine z_mut (Sc := [[(a0, .inl (E.2 0, 60, .inl f))]]) (Sr := [[(h0, .inr (7, [.ref a0, .int c0, .int l0, .int b0, .int w0]))]]) (W1 := [[(a0, .inl (E.2 0, 60, .inl (m_up 60 f)))]]) (va_runSN (As := [.ref a0]) (rest := []) ⟨hx, hb, hml, hown, hts⟩ (c_X9_moveUp l E a0 60 f (by decide) (by decide) H.size) (⟨va_cnB 1 hts gX8_log_X9_moveUp_n41 rfl rfl rfl (hK.2.2.2.2.2.2.2.2.2.2.2.2.2.2.1) (hts (.initialized RX9) (by decide +kernel)) (by decide +kernel) ⟨Nat.le_of_ble_eq_true rfl, Nat.le_of_ble_eq_true rfl⟩, hts (.static yX9_moveUp) (by decide +kernel), trivial⟩) ⟨zP.blind, z_pre hK hPc hDc⟩ rfl rfl hl.1 rfl (lv_room (Nat.le_of_ble_eq_true rfl)) dX8_log_13 ⟨Nat.le_of_ble_eq_true rfl, Nat.le_of_ble_eq_true rfl⟩) hP hD hS hA [1] [0] rfl rfl (by decide) (by decide) (fun H locs hP hD hS => ?_)
    have hP : va_P E.1 vwCl ([[(h0, .inr (7, [.ref a0, .int c0, .int l0, .int b0, .int w0]))], [(a0, .inl (E.2 0, 60, .inl (m_up 60 f)))]] : List va_W).flatten H := hP
    have hD : va_D A ([[(h0, .inr (7, [.ref a0, .int c0, .int l0, .int b0, .int w0]))], [(a0, .inl (E.2 0, 60, .inl (m_up 60 f)))]] : List va_W).flatten := hD
    refine W.eq (g2 := F0 Mi 16 ls []) rfl ?_
    refine lv_aload_n hx hb dX8_log_16 rfl (lv_at hl 0 rfl) ?_
    refine lv_bipush (v := 59) hx hb dX8_log_17 (by decide) ?_
    refine va_put (D := E.1) (ci := 7) (v := .int 59) (ty := .int) (C := RX8) (T := TX8) (N := 5) hx hb hts hi_X8 tyX8 tyX8_ok nmX8 hown hK.1 hP hD hS 0 rfl rfl 1 (by decide) (hts (.fieldLink RX8 23 "AltimeterWatch$Weather" "count" "I") (by decide +kernel)) (fun _ h9 => h9) rfl (by decide +kernel) rfl rfl (Nat.le_of_ble_eq_true rfl) dX8_log_19 (fun H locs hP hD hS => ?_)
    have hP : va_P E.1 vwCl ([[(h0, .inr (7, [.ref a0, .int 59, .int l0, .int b0, .int w0]))], [(a0, .inl (E.2 0, 60, .inl (m_up 60 f)))]] : List va_W).flatten H := hP
    have hD : va_D A ([[(h0, .inr (7, [.ref a0, .int 59, .int l0, .int b0, .int w0]))], [(a0, .inl (E.2 0, 60, .inl (m_up 60 f)))]] : List va_W).flatten := hD
    refine lv_aload_n hx hb dX8_log_22 rfl (lv_at hl 0 rfl) ?_
    refine va_get (D := E.1) (ci := 7) (v := .int 59) (C := RX8) (T := TX8) (N := 5) hx hb hts hi_X8 hown hK.1 hP 0 rfl rfl 1 (by decide) (hts (.fieldLink RX8 23 "AltimeterWatch$Weather" "count" "I") (by decide +kernel)) (fun _ h9 => h9) rfl dX8_log_23 ?_
    refine lv_if_lt (tgt := 61) hx hb dX8_log_26 (by decide) (fun h9 => absurd h9 ((by decide))) (fun _ => ?_)
    refine lv_aload_n hx hb dX8_log_29 rfl (lv_at hl 0 rfl) ?_
    refine va_get (D := E.1) (ci := 7) (v := .int 59) (C := RX8) (T := TX8) (N := 5) hx hb hts hi_X8 hown hK.1 hP 0 rfl rfl 1 (by decide) (hts (.fieldLink RX8 23 "AltimeterWatch$Weather" "count" "I") (by decide +kernel)) (fun _ h9 => h9) rfl dX8_log_30 ?_
    refine lv_aload_n hx hb dX8_log_33 rfl (lv_at hl 0 rfl) ?_
    refine va_get (D := E.1) (ci := 7) (v := .ref a0) (C := RX8) (T := TX8) (N := 5) hx hb hts hi_X8 hown hK.1 hP 0 rfl rfl 0 (by decide) (hts (.fieldLink RX8 9 "AltimeterWatch$Weather" "pressures" "[I") (by decide +kernel)) (fun _ h9 => h9) rfl dX8_log_34 ?_
    refine va_alen (v := 60) hx hb hK.1 hP 1 0 rfl rfl rfl dX8_log_37 ?_
    refine lv_icmp_ge (tgt := 61) hx hb dX8_log_38 (by decide) (fun h9 => absurd h9 ((by decide))) (fun _ => ?_)
    refine lv_aload_n hx hb dX8_log_41 rfl (lv_at hl 0 rfl) ?_
    refine va_get (D := E.1) (ci := 7) (v := .ref a0) (C := RX8) (T := TX8) (N := 5) hx hb hts hi_X8 hown hK.1 hP 0 rfl rfl 0 (by decide) (hts (.fieldLink RX8 9 "AltimeterWatch$Weather" "pressures" "[I") (by decide +kernel)) (fun _ h9 => h9) rfl dX8_log_42 ?_
    refine lv_aload_n hx hb dX8_log_45 rfl (lv_at hl 0 rfl) ?_
    refine va_get (D := E.1) (ci := 7) (v := .int 59) (C := RX8) (T := TX8) (N := 5) hx hb hts hi_X8 hown hK.1 hP 0 rfl rfl 1 (by decide) (hts (.fieldLink RX8 23 "AltimeterWatch$Weather" "count" "I") (by decide +kernel)) (fun _ h9 => h9) rfl dX8_log_46 ?_
    refine lv_iload_n hx hb dX8_log_49 rfl (lv_at hl 1 rfl) ?_
    refine z_iast (k := 59) hx hb hK.1 hP hD hS 1 rfl rfl (by decide) (by decide) dX8_log_50 (fun H locs hP hD hS => ?_)
    have hP : va_P E.1 vwCl ([[(h0, .inr (7, [.ref a0, .int 59, .int l0, .int b0, .int w0]))], [(a0, .inl (E.2 0, 60, .inl (upd (m_up 60 f) 59 x)))]] : List va_W).flatten H := hP
    have hD : va_D A ([[(h0, .inr (7, [.ref a0, .int 59, .int l0, .int b0, .int w0]))], [(a0, .inl (E.2 0, 60, .inl (upd (m_up 60 f) 59 x)))]] : List va_W).flatten := hD
    refine lv_aload_n hx hb dX8_log_51 rfl (lv_at hl 0 rfl) ?_
    refine lv_dup hx hb dX8_log_52 rfl ?_
    refine va_get (D := E.1) (ci := 7) (v := .int 59) (C := RX8) (T := TX8) (N := 5) hx hb hts hi_X8 hown hK.1 hP 0 rfl rfl 1 (by decide) (hts (.fieldLink RX8 23 "AltimeterWatch$Weather" "count" "I") (by decide +kernel)) (fun _ h9 => h9) rfl dX8_log_53 ?_
    refine lv_iconst (v := 1) hx hb dX8_log_56 (by decide) ?_
    refine lv_iadd hx hb dX8_log_57 ?_
    refine lv_topi (fun f_2 ef_2 => ?_)
    refine va_put (D := E.1) (ci := 7) (v := .int f_2) (ty := .int) (C := RX8) (T := TX8) (N := 5) hx hb hts hi_X8 tyX8 tyX8_ok nmX8 hown hK.1 hP hD hS 0 rfl rfl 1 (by decide) (hts (.fieldLink RX8 23 "AltimeterWatch$Weather" "count" "I") (by decide +kernel)) (fun _ h9 => h9) rfl (by decide +kernel) rfl rfl (Nat.le_of_ble_eq_true rfl) dX8_log_58 (fun H locs hP hD hS => ?_)
    have hP : va_P E.1 vwCl ([[(h0, .inr (7, [.ref a0, .int f_2, .int l0, .int b0, .int w0]))], [(a0, .inl (E.2 0, 60, .inl (upd (m_up 60 f) 59 x)))]] : List va_W).flatten H := hP
    have hD : va_D A ([[(h0, .inr (7, [.ref a0, .int f_2, .int l0, .int b0, .int w0]))], [(a0, .inl (E.2 0, 60, .inl (upd (m_up 60 f) 59 x)))]] : List va_W).flatten := hD
    have hP : va_P E.1 vwCl ([[(h0, .inr (7, [.ref a0, .int f_2, .int l0, .int b0, .int w0]))], [(a0, .inl (E.2 0, 60, .inl (upd (m_up 60 f) 59 x)))]] : List va_W).flatten H := zf_sub hP [0, 1] rfl
    have hD : va_D A ([[(h0, .inr (7, [.ref a0, .int f_2, .int l0, .int b0, .int w0]))], [(a0, .inl (E.2 0, 60, .inl (upd (m_up 60 f) 59 x)))]] : List va_W).flatten := zf_subD hD [0, 1] (by decide) rfl
    exact W.vret hx hb hr (z_end hP hD hS (by rw [m_ln, m_lf, if_neg c_6, if_neg c_6, ef_2]; rfl)) hS.2.2 dX8_log_61 hlocks

/-- the greatest of k numbers from f s on, 0 if there are none -/
def m_mx (f : Nat → Int32) (s : Nat) : Nat → Int32
  | 0 => 0
  | k + 1 => if m_mx f s k < f (s + k) then f (s + k) else m_mx f s k
theorem k_max0 {a b : Nat} (ha : a < 2 ^ 30) (hb : b < 2 ^ 30) : (if (0 : Int32) < nI a - nI b then nI a - nI b else 0) = nI (a - b) := by
  rcases Nat.lt_or_ge b a with h | h
  · rw [pk_sub (Nat.le_of_lt h)]
    have h0 : (0 : Int32) < nI (a - b) := nI_lt (a := 0) (b := a - b) (by omega) (by omega)
    rw [if_pos h0]
  · have e : a - b = 0 := by omega
    rw [e]
    rw [if_neg]
    · rfl
    · rw [fa_lt, pk_sub_toInt ha hb]
      have : (0 : Int32).toInt = 0 := rfl
      omega

set_option maxHeartbeats 4000000 in
set_option maxRecDepth 100000 in
theorem c_X8_greatestOfLatest (l : Launch) (E : zE) (h0 a0 cn q : Nat) (c0 l0 b0 w0 y : Int32) (f : Nat → Int32) (hc : c0 = nI cn) (hcn : cn ≤ 60) (hq : y = nI q) (hqn : q ≤ 60) : zR l yX8_greatestOfLatest wsX8_greatestOfLatest ({ frames := 1, cells := 0, slots := 0, locals := 21 }) E [.ref h0, .int y] ([[(h0, .inr (7, [.ref a0, .int c0, .int l0, .int b0, .int w0]))], [(a0, .inl (E.2 0, 60, .inl f))]] : List va_W).flatten (some (.int (m_mx f (cn - q) (cn - (cn - q))))) := by
  refine z_startr (cc := cX8_greatestOfLatest) (maxL := 4) (ret := (some .int)) (by decide) rfl (Nat.le_of_ble_eq_true rfl) ?_
  intro Pg En s Mi below meth Cd hx hb hr hts hown hlocks hml hP hK ls hl
  have hl : lv_has ls 4 [(0, .ref h0), (1, .int y)] := hl
  have hi_X8 : ∀ w ∈ wsX80, w ∈ wsX8_greatestOfLatest := by decide +kernel
  have LOOP_13 : ∀ (n : Nat) (i : Nat) (m x : Int32), cn < i + n → i ≤ cn → cn - q ≤ i → x = nI i → m = m_mx f (cn - q) (i - (cn - q)) →  ∀ (ls : Array Slot), lv_has ls 4 [(0, .ref h0), (2, .int m), (3, .int x)] → W Pg l En ({ frames := 1, cells := 0, slots := 0, locals := 21 } : Room) s Mi ([.ref h0, .int y] : List Value).toArray below meth Cd s.heap [] 0 0 (MQ below (zQr (some (.int (m_mx f (cn - q) (cn - (cn - q)))))) ([.ref h0, .int y] : List Value).toArray s 0 0 (fun _ => False)) (F0 Mi 13 ls []) := by
    intro n
    induction n with
    | zero => intro i m x h1 h2 h3 h4 h5; exact absurd h1 (by omega)
    | succ n ih =>
      intro i m x h1 h2 h3 h4 h5 ls hl
      refine lv_iload_n hx hb dX8_greatestOfLatest_13 rfl (lv_at hl 2 rfl) ?_
      refine lv_aload_n hx hb dX8_greatestOfLatest_14 rfl (lv_at hl 0 rfl) ?_
      refine va_get (D := E.1) (ci := 7) (v := .int c0) (C := RX8) (T := TX8) (N := 5) hx hb hts hi_X8 hown hK.1 hP 0 rfl rfl 1 (by decide) (hts (.fieldLink RX8 23 "AltimeterWatch$Weather" "count" "I") (by decide +kernel)) (fun _ h9 => h9) rfl dX8_greatestOfLatest_15 ?_
      refine lv_icmp_ge (tgt := 53) hx hb dX8_greatestOfLatest_18 (by decide) (fun c_18 => ?_) (fun c_18 => ?_)
      · refine lv_iload_n hx hb dX8_greatestOfLatest_53 rfl (lv_at hl 1 rfl) ?_
        refine z_topi (y := m_mx f (cn - q) (cn - (cn - q))) (by have e : i = cn := by { have := nI_len (a := cn) (b := i) (by omega) (by omega) (by rw [← h4, ← hc]; exact c_18); omega }; rw [h5, e]) ?_
        exact W.iret (v := m_mx f (cn - q) (cn - (cn - q))) hx hb hr z_endR (fun _ h => by cases h) dX8_greatestOfLatest_54 hlocks
      · have hlt : i < cn := nI_nlen (by omega) (by omega) (by rw [← h4, ← hc]; exact c_18)
        refine lv_iload_n hx hb dX8_greatestOfLatest_21 rfl (lv_at hl 2 rfl) ?_
        refine lv_aload_n hx hb dX8_greatestOfLatest_22 rfl (lv_at hl 0 rfl) ?_
        refine va_get (D := E.1) (ci := 7) (v := .ref a0) (C := RX8) (T := TX8) (N := 5) hx hb hts hi_X8 hown hK.1 hP 0 rfl rfl 0 (by decide) (hts (.fieldLink RX8 9 "AltimeterWatch$Weather" "pressures" "[I") (by decide +kernel)) (fun _ h9 => h9) rfl dX8_greatestOfLatest_23 ?_
        refine va_alen (v := 60) hx hb hK.1 hP 1 0 rfl rfl rfl dX8_greatestOfLatest_26 ?_
        refine lv_icmp_ge (tgt := 53) hx hb dX8_greatestOfLatest_27 (by decide) (fun h9 => absurd h9 ((by rw [h4]; exact nI_ge (b := 60) (by omega) (by decide)))) (fun _ => ?_)
        refine lv_aload_n hx hb dX8_greatestOfLatest_30 rfl (lv_at hl 0 rfl) ?_
        refine va_get (D := E.1) (ci := 7) (v := .ref a0) (C := RX8) (T := TX8) (N := 5) hx hb hts hi_X8 hown hK.1 hP 0 rfl rfl 0 (by decide) (hts (.fieldLink RX8 9 "AltimeterWatch$Weather" "pressures" "[I") (by decide +kernel)) (fun _ h9 => h9) rfl dX8_greatestOfLatest_31 ?_
        refine lv_iload_n hx hb dX8_greatestOfLatest_34 rfl (lv_at hl 2 rfl) ?_
        refine z_iald (k := i) hx hb hK.1 hP 1 rfl h4 (by omega) (by decide) dX8_greatestOfLatest_35 ?_
        refine lv_iload_n hx hb dX8_greatestOfLatest_36 rfl (lv_at hl 1 rfl) ?_
        refine lv_icmp_le (tgt := 47) hx hb dX8_greatestOfLatest_37 (by decide) (fun c_37 => ?_) (fun c_37 => ?_)
        · obtain ⟨x_1, ex_1⟩ : ∃ y : Int32, y = x + 1 := ⟨_, rfl⟩
          refine lv_iinc (v := x_1) (lv' := [(3, .int x_1), (0, .ref h0), (2, .int m)]) hx hb dX8_greatestOfLatest_47 hl (k := 2) rfl (by rw [ex_1]; rfl) (by decide) rfl (fun ls hl => ?_)
          refine lv_goto (tgt := 13) hx hb dX8_greatestOfLatest_50 (by decide) ?_
          exact ih (i + 1) m x_1 (by omega) (by omega) (by omega) (by rw [ex_1, h4]; exact nI_1 i) (by rw [show i + 1 - (cn - q) = i - (cn - q) + 1 by omega, m_mx, show cn - q + (i - (cn - q)) = i by omega, ← h5, if_neg (Int32.not_lt.mpr c_37)]) ls (lv_sub hl [1, 2, 0] rfl)
        · refine lv_aload_n hx hb dX8_greatestOfLatest_40 rfl (lv_at hl 0 rfl) ?_
          refine va_get (D := E.1) (ci := 7) (v := .ref a0) (C := RX8) (T := TX8) (N := 5) hx hb hts hi_X8 hown hK.1 hP 0 rfl rfl 0 (by decide) (hts (.fieldLink RX8 9 "AltimeterWatch$Weather" "pressures" "[I") (by decide +kernel)) (fun _ h9 => h9) rfl dX8_greatestOfLatest_41 ?_
          refine lv_iload_n hx hb dX8_greatestOfLatest_44 rfl (lv_at hl 2 rfl) ?_
          refine z_iald (k := i) hx hb hK.1 hP 1 rfl h4 (by omega) (by decide) dX8_greatestOfLatest_45 ?_
          refine lv_istore_n (lv' := [(2, .int (f i)), (0, .ref h0), (3, .int x)]) hx hb dX8_greatestOfLatest_46 rfl hl (by decide) rfl (fun ls hl => ?_)
          obtain ⟨x_2, ex_2⟩ : ∃ y : Int32, y = x + 1 := ⟨_, rfl⟩
          refine lv_iinc (v := x_2) (lv' := [(3, .int x_2), (2, .int (f i)), (0, .ref h0)]) hx hb dX8_greatestOfLatest_47 hl (k := 2) rfl (by rw [ex_2]; rfl) (by decide) rfl (fun ls hl => ?_)
          refine lv_goto (tgt := 13) hx hb dX8_greatestOfLatest_50 (by decide) ?_
          exact ih (i + 1) (f i) x_2 (by omega) (by omega) (by omega) (by rw [ex_2, h4]; exact nI_1 i) (by rw [show i + 1 - (cn - q) = i - (cn - q) + 1 by omega, m_mx, show cn - q + (i - (cn - q)) = i by omega, ← h5, if_pos (Int32.not_le.mp c_37)]) ls (lv_sub hl [2, 1, 0] rfl)
  refine lv_iconst (v := 0) hx hb dX8_greatestOfLatest_0 (by decide) ?_
  refine lv_istore_n (lv' := [(2, .int 0), (0, .ref h0), (1, .int y)]) hx hb dX8_greatestOfLatest_1 rfl hl (by decide) rfl (fun ls hl => ?_)
  refine lv_iconst (v := 0) hx hb dX8_greatestOfLatest_2 (by decide) ?_
  refine lv_aload_n hx hb dX8_greatestOfLatest_3 rfl (lv_at hl 1 rfl) ?_
  refine va_get (D := E.1) (ci := 7) (v := .int c0) (C := RX8) (T := TX8) (N := 5) hx hb hts hi_X8 hown hK.1 hP 0 rfl rfl 1 (by decide) (hts (.fieldLink RX8 23 "AltimeterWatch$Weather" "count" "I") (by decide +kernel)) (fun _ h9 => h9) rfl dX8_greatestOfLatest_4 ?_
  refine lv_iload_n hx hb dX8_greatestOfLatest_7 rfl (lv_at hl 2 rfl) ?_
  refine lv_isub hx hb dX8_greatestOfLatest_8 ?_
  refine va_mmax hx hb (by rw [hml]; exact hl.1.symm) hown (hts (.methodLink RX8 57 Lib.Math.max.name) (by decide +kernel)) (hts (.static Lib.Math.max.name) (by decide +kernel)) (hts (.initialized "java/lang/Math") (by decide +kernel)) (hts (.code Lib.Math.max.name Lib.Math.max.code 2 (some .int)) (by decide +kernel)) (Nat.le_of_ble_eq_true rfl) (Nat.le_of_ble_eq_true rfl) (Nat.le_of_ble_eq_true rfl) (Nat.le_of_ble_eq_true rfl) dX8_greatestOfLatest_9 ?_
  refine z_topi (y := nI (cn - q)) (by rw [hc, hq]; exact k_max0 (by omega) (by omega)) ?_
  refine lv_istore_n (lv' := [(3, .int (nI (cn - q))), (2, .int 0), (0, .ref h0), (1, .int y)]) hx hb dX8_greatestOfLatest_12 rfl hl (by decide) rfl (fun ls hl => ?_)
  exact LOOP_13 (cn + 1) (cn - q) 0 (nI (cn - q)) (by omega) (by omega) (Nat.le_refl _) rfl (by rw [Nat.sub_self]; rfl) ls (lv_sub hl [2, 1, 0] rfl)

/-- the fall of n logged pressures -/
def m_fall (n : Nat) (f : Nat → Int32) : Int32 := m_mx f 0 n - (if n = 0 then 0 else f (n - 1))
theorem m_fall_of {n : Nat} {f : Nat → Int32} (hn : n ≤ 60) : m_mx f (n - n) (n - (n - n)) - m_el 60 f (nI n - 1) = m_fall n f := by
  rw [m_fall, show n - n = 0 by omega, Nat.sub_zero]
  congr 1
  by_cases h : n = 0
  · subst h; rw [if_pos rfl]; exact m_el_neg (by decide)
  · rw [if_neg h, show nI n - 1 = nI (n - 1) from pk_sub (b := 1) (by omega)]
    exact m_el_in (by omega) (by decide)

set_option maxHeartbeats 4000000 in
set_option maxRecDepth 100000 in
theorem c_X8_presentFall (l : Launch) (E : zE) (h0 a0 cn : Nat) (c0 l0 b0 w0 : Int32) (f : Nat → Int32) (hc : c0 = nI cn) (hcn : cn ≤ 60) : zR l yX8_presentFall wsX8_presentFall ({ frames := 2, cells := 0, slots := 0, locals := 44 }) E [.ref h0] ([[(h0, .inr (7, [.ref a0, .int c0, .int l0, .int b0, .int w0]))], [(a0, .inl (E.2 0, 60, .inl f))]] : List va_W).flatten (some (.int (m_fall cn f))) := by
  refine z_startr (cc := cX8_presentFall) (maxL := 1) (ret := (some .int)) (by decide) rfl (Nat.le_of_ble_eq_true rfl) ?_
  intro Pg En s Mi below meth Cd hx hb hr hts hown hlocks hml hP hK ls hl
  have hl : lv_has ls 1 [(0, .ref h0)] := hl
  have hi_X8 : ∀ w ∈ wsX80, w ∈ wsX8_presentFall := by decide +kernel
  refine lv_aload_n hx hb dX8_presentFall_0 rfl (lv_at hl 0 rfl) ?_
  refine lv_aload_n hx hb dX8_presentFall_1 rfl (lv_at hl 0 rfl) ?_
  refine va_get (D := E.1) (ci := 7) (v := .int c0) (C := RX8) (T := TX8) (N := 5) hx hb hts hi_X8 hown hK.1 hP 0 rfl rfl 1 (by decide) (hts (.fieldLink RX8 23 "AltimeterWatch$Weather" "count" "I") (by decide +kernel)) (fun _ h9 => h9) rfl dX8_presentFall_2 ?_
  have hPc : va_P E.1 vwCl ([[(h0, .inr (7, [.ref a0, .int c0, .int l0, .int b0, .int w0]))], [(a0, .inl (E.2 0, 60, .inl f))]] : List va_W).flatten s.heap := zf_sub hP [0, 1] rfl
  refine z_rdv (va_runV (As := [.int c0]) (rest := []) ⟨hx, hb, hml, hown, hts⟩ (c_X8_greatestOfLatest l E h0 a0 cn cn c0 l0 b0 w0 c0 f hc hcn hc hcn) (cwV 1 hts gX8_presentFall_X8_greatestOfLatest rfl rfl rfl (by decide +kernel) ⟨Nat.le_of_ble_eq_true rfl, Nat.le_of_ble_eq_true rfl⟩) ⟨zPr.blind, va_recv hK.1 hPc (ci := 7) (q0 := 0) rfl rfl, z_prer hK hPc⟩ rfl rfl hl.1 rfl (lv_room (Nat.le_of_ble_eq_true rfl)) dX8_presentFall_5 ⟨Nat.le_of_ble_eq_true rfl, Nat.le_of_ble_eq_true rfl⟩) ?_
  refine W.eq (g2 := F0 Mi 8 ls [.int (m_mx f (cn - cn) (cn - (cn - cn)))]) rfl ?_
  refine lv_aload_n hx hb dX8_presentFall_8 rfl (lv_at hl 0 rfl) ?_
  refine va_get (D := E.1) (ci := 7) (v := .ref a0) (C := RX8) (T := TX8) (N := 5) hx hb hts hi_X8 hown hK.1 hP 0 rfl rfl 0 (by decide) (hts (.fieldLink RX8 9 "AltimeterWatch$Weather" "pressures" "[I") (by decide +kernel)) (fun _ h9 => h9) rfl dX8_presentFall_9 ?_
  refine lv_aload_n hx hb dX8_presentFall_12 rfl (lv_at hl 0 rfl) ?_
  refine va_get (D := E.1) (ci := 7) (v := .int c0) (C := RX8) (T := TX8) (N := 5) hx hb hts hi_X8 hown hK.1 hP 0 rfl rfl 1 (by decide) (hts (.fieldLink RX8 23 "AltimeterWatch$Weather" "count" "I") (by decide +kernel)) (fun _ h9 => h9) rfl dX8_presentFall_13 ?_
  refine lv_iconst (v := 1) hx hb dX8_presentFall_16 (by decide) ?_
  refine lv_isub hx hb dX8_presentFall_17 ?_
  have hPc : va_P E.1 vwCl ([[(a0, .inl (E.2 0, 60, .inl f))]] : List va_W).flatten s.heap := zf_sub hP [1] rfl
  refine z_rdv (va_runSN (As := [.ref a0, .int (c0 - 1)]) (rest := [.int (m_mx f (cn - cn) (cn - (cn - cn)))]) ⟨hx, hb, hml, hown, hts⟩ (c_X9_elementOf l E a0 60 f (c0 - 1) (by decide)) (⟨va_cnB 2 hts gX8_presentFall_X9_elementOf_n53 rfl rfl rfl (hK.2.2.2.2.2.2.2.2.2.2.2.2.2.2.2.1) (hts (.initialized RX9) (by decide +kernel)) (by decide +kernel) ⟨Nat.le_of_ble_eq_true rfl, Nat.le_of_ble_eq_true rfl⟩, hts (.static yX9_elementOf) (by decide +kernel), trivial⟩) ⟨zPr.blind, z_prer hK hPc⟩ rfl rfl hl.1 rfl (lv_room (Nat.le_of_ble_eq_true rfl)) dX8_presentFall_18 ⟨Nat.le_of_ble_eq_true rfl, Nat.le_of_ble_eq_true rfl⟩) ?_
  refine W.eq (g2 := F0 Mi 21 ls [.int (m_el 60 f (c0 - 1)), .int (m_mx f (cn - cn) (cn - (cn - cn)))]) rfl ?_
  refine lv_isub hx hb dX8_presentFall_21 ?_
  refine z_topi (y := m_fall cn f) (by rw [hc]; exact m_fall_of hcn) ?_
  exact W.iret (v := m_fall cn f) hx hb hr z_endR (fun _ h => by cases h) dX8_presentFall_22 hlocks

def m_al (n : Nat) (f : Nat → Int32) (l : Int32) : Int32 := if l ≤ m_fall n f then 1 else 0
theorem m_al01 (n : Nat) (f : Nat → Int32) (l : Int32) : m_al n f l = 0 ∨ m_al n f l = 1 := by
  unfold m_al
  split
  · exact Or.inr rfl
  · exact Or.inl rfl

set_option maxHeartbeats 4000000 in
set_option maxRecDepth 100000 in
theorem c_X8_hasAlarm (l : Launch) (E : zE) (h0 a0 cn : Nat) (c0 l0 b0 w0 : Int32) (f : Nat → Int32) (hc : c0 = nI cn) (hcn : cn ≤ 60) : zR l yX8_hasAlarm wsX8_hasAlarm ({ frames := 3, cells := 0, slots := 0, locals := 64 }) E [.ref h0] ([[(h0, .inr (7, [.ref a0, .int c0, .int l0, .int b0, .int w0]))], [(a0, .inl (E.2 0, 60, .inl f))]] : List va_W).flatten (some (.int (m_al cn f l0))) := by
  refine z_startr (cc := cX8_hasAlarm) (maxL := 1) (ret := (some .boolean)) (by decide) rfl (Nat.le_of_ble_eq_true rfl) ?_
  intro Pg En s Mi below meth Cd hx hb hr hts hown hlocks hml hP hK ls hl
  have hl : lv_has ls 1 [(0, .ref h0)] := hl
  have hi_X8 : ∀ w ∈ wsX80, w ∈ wsX8_hasAlarm := by decide +kernel
  refine lv_aload_n hx hb dX8_hasAlarm_0 rfl (lv_at hl 0 rfl) ?_
  have hPc : va_P E.1 vwCl ([[(h0, .inr (7, [.ref a0, .int c0, .int l0, .int b0, .int w0]))], [(a0, .inl (E.2 0, 60, .inl f))]] : List va_W).flatten s.heap := zf_sub hP [0, 1] rfl
  refine z_rdv (va_runV (As := []) (rest := []) ⟨hx, hb, hml, hown, hts⟩ (c_X8_presentFall l E h0 a0 cn c0 l0 b0 w0 f hc hcn) (cwV 0 hts gX8_hasAlarm_X8_presentFall rfl rfl rfl (by decide +kernel) ⟨Nat.le_of_ble_eq_true rfl, Nat.le_of_ble_eq_true rfl⟩) ⟨zPr.blind, va_recv hK.1 hPc (ci := 7) (q0 := 0) rfl rfl, z_prer hK hPc⟩ rfl rfl hl.1 rfl (lv_room (Nat.le_of_ble_eq_true rfl)) dX8_hasAlarm_1 ⟨Nat.le_of_ble_eq_true rfl, Nat.le_of_ble_eq_true rfl⟩) ?_
  refine W.eq (g2 := F0 Mi 4 ls [.int (m_fall cn f)]) rfl ?_
  refine lv_aload_n hx hb dX8_hasAlarm_4 rfl (lv_at hl 0 rfl) ?_
  refine va_get (D := E.1) (ci := 7) (v := .int l0) (C := RX8) (T := TX8) (N := 5) hx hb hts hi_X8 hown hK.1 hP 0 rfl rfl 2 (by decide) (hts (.fieldLink RX8 15 "AltimeterWatch$Weather" "limit" "I") (by decide +kernel)) (fun _ h9 => h9) rfl dX8_hasAlarm_5 ?_
  refine lv_icmp_lt (tgt := 15) hx hb dX8_hasAlarm_8 (by decide) (fun c_8 => ?_) (fun c_8 => ?_)
  · refine lv_iconst (v := 0) hx hb dX8_hasAlarm_15 (by decide) ?_
    refine z_topi (y := m_al cn f l0) (by rw [m_al, if_neg (Int32.not_le.mpr c_8)]) ?_
    exact W.zret (v := m_al cn f l0) hx hb hr (by unfold m_al; split <;> rfl) z_endR (fun _ h => by cases h) dX8_hasAlarm_16 hlocks
  · refine lv_iconst (v := 1) hx hb dX8_hasAlarm_11 (by decide) ?_
    refine lv_goto (tgt := 16) hx hb dX8_hasAlarm_12 (by decide) ?_
    refine z_topi (y := m_al cn f l0) (by rw [m_al, if_pos (Int32.not_lt.mp c_8)]) ?_
    exact W.zret (v := m_al cn f l0) hx hb hr (by unfold m_al; split <;> rfl) z_endR (fun _ h => by cases h) dX8_hasAlarm_16 hlocks

theorem m_ln_nI {n : Nat} (h : n ≤ 60) : m_ln (nI n) = nI (if n < 60 then n + 1 else 60) := by
  unfold m_ln
  by_cases q : n < 60
  · have q' : nI n < 60 := nI_lt (b := 60) q (by decide)
    rw [if_pos q', if_pos q]; exact nI_1 n
  · have q' : ¬ nI n < 60 := nI_nlt (a := n) (b := 60) (by omega) (by omega)
    rw [if_neg q', if_neg q]
    rfl
def m_wn (cn : Nat) : Nat := if cn < 60 then cn + 1 else 60
/-- alarms that began, behind a logged minute -/
def m_bg (cn : Nat) (f : Nat → Int32) (l b w : Int32) : Int32 := if m_al cn f l = 0 then b else if w = 0 then b + 1 else b

set_option maxHeartbeats 4000000 in
set_option maxRecDepth 100000 in
theorem c_X8_passMinute (l : Launch) (E : zE) (h0 a0 cn : Nat) (c0 l0 b0 w0 x : Int32) (f : Nat → Int32) (hc : c0 = nI cn) (hcn : cn ≤ 60) : zM l yX8_passMinute wsX8_passMinute ({ frames := 4, cells := 0, slots := 0, locals := 84 }) E [.ref h0, .int x] ([[(h0, .inr (7, [.ref a0, .int c0, .int l0, .int b0, .int w0]))], [(a0, .inl (E.2 0, 60, .inl f))]] : List va_W).flatten none ([[(h0, .inr (7, [.ref a0, .int (m_ln c0), .int l0, .int (m_bg (m_wn cn) (m_lf c0 f x) l0 b0 w0), .int (m_al (m_wn cn) (m_lf c0 f x) l0)]))], [(a0, .inl (E.2 0, 60, .inl (m_lf c0 f x)))]] : List va_W).flatten 0 0 := by
  refine z_start (cc := cX8_passMinute) (maxL := 3) (ret := none) (by decide) rfl (Nat.le_of_ble_eq_true rfl) ?_
  intro Pg En s Mi below meth Cd A hx hb hr hts hown hlocks hin hml hA H hH hP hK hD hS ls hl
  have hl : lv_has ls 3 [(0, .ref h0), (1, .int x)] := hl
  have hi_X8 : ∀ w ∈ wsX80, w ∈ wsX8_passMinute := by decide +kernel
  refine lv_aload_n hx hb dX8_passMinute_0 rfl (lv_at hl 0 rfl) ?_
  refine lv_iload_n hx hb dX8_passMinute_1 rfl (lv_at hl 1 rfl) ?_
  have hPc : va_P E.1 vwCl ([[(h0, .inr (7, [.ref a0, .int c0, .int l0, .int b0, .int w0]))], [(a0, .inl (E.2 0, 60, .inl f))]] : List va_W).flatten H := zf_sub hP [0, 1] rfl
  have hDc : va_D A ([[(h0, .inr (7, [.ref a0, .int c0, .int l0, .int b0, .int w0]))], [(a0, .inl (E.2 0, 60, .inl f))]] : List va_W).flatten := zf_subD hD [0, 1] (by decide) rfl
  refine z_mut (Sc := [[(h0, .inr (7, [.ref a0, .int c0, .int l0, .int b0, .int w0]))], [(a0, .inl (E.2 0, 60, .inl f))]]) (Sr := []) (W1 := [[(h0, .inr (7, [.ref a0, .int (m_ln c0), .int l0, .int b0, .int w0]))], [(a0, .inl (E.2 0, 60, .inl (m_lf c0 f x)))]]) (va_runV (As := [.int x]) (rest := []) ⟨hx, hb, hml, hown, hts⟩ (c_X8_log l E h0 a0 cn c0 l0 b0 w0 x f hc hcn H.size) (cwV 1 hts gX8_passMinute_X8_log rfl rfl rfl (by decide +kernel) ⟨Nat.le_of_ble_eq_true rfl, Nat.le_of_ble_eq_true rfl⟩) ⟨zP.blind, va_recv hK.1 hPc (ci := 7) (q0 := 0) rfl rfl, z_pre hK hPc hDc⟩ rfl rfl hl.1 rfl (lv_room (Nat.le_of_ble_eq_true rfl)) dX8_passMinute_2 ⟨Nat.le_of_ble_eq_true rfl, Nat.le_of_ble_eq_true rfl⟩) hP hD hS hA [0, 1] [] rfl rfl (by decide) (by decide) (fun H locs hP hD hS => ?_)
  have hP : va_P E.1 vwCl ([[(h0, .inr (7, [.ref a0, .int (m_ln c0), .int l0, .int b0, .int w0]))], [(a0, .inl (E.2 0, 60, .inl (m_lf c0 f x)))]] : List va_W).flatten H := hP
  have hD : va_D A ([[(h0, .inr (7, [.ref a0, .int (m_ln c0), .int l0, .int b0, .int w0]))], [(a0, .inl (E.2 0, 60, .inl (m_lf c0 f x)))]] : List va_W).flatten := hD
  refine W.eq (g2 := F0 Mi 5 ls []) rfl ?_
  refine lv_aload_n hx hb dX8_passMinute_5 rfl (lv_at hl 0 rfl) ?_
  have hPc : va_P E.1 vwCl ([[(h0, .inr (7, [.ref a0, .int (m_ln c0), .int l0, .int b0, .int w0]))], [(a0, .inl (E.2 0, 60, .inl (m_lf c0 f x)))]] : List va_W).flatten H := zf_sub hP [0, 1] rfl
  refine z_rdv (va_runV (As := []) (rest := []) ⟨hx, hb, hml, hown, hts⟩ (c_X8_hasAlarm l E h0 a0 (m_wn cn) (m_ln c0) l0 b0 w0 (m_lf c0 f x) (by rw [hc]; exact m_ln_nI hcn) (by unfold m_wn; split <;> omega)) (cwV 0 hts gX8_passMinute_X8_hasAlarm rfl rfl rfl (by decide +kernel) ⟨Nat.le_of_ble_eq_true rfl, Nat.le_of_ble_eq_true rfl⟩) ⟨zPr.blind, va_recv hK.1 hPc (ci := 7) (q0 := 0) rfl rfl, z_prer hK hPc⟩ rfl rfl hl.1 rfl (lv_room (Nat.le_of_ble_eq_true rfl)) dX8_passMinute_6 ⟨Nat.le_of_ble_eq_true rfl, Nat.le_of_ble_eq_true rfl⟩) ?_
  refine W.eq (g2 := F0 Mi 9 ls [.int (m_al (m_wn cn) (m_lf c0 f x) l0)]) rfl ?_
  refine lv_topi (fun f_1 ef_1 => ?_)
  refine lv_istore_n (lv' := [(2, .int f_1), (0, .ref h0), (1, .int x)]) hx hb dX8_passMinute_9 rfl hl (by decide) rfl (fun ls hl => ?_)
  refine lv_iload_n hx hb dX8_passMinute_10 rfl (lv_at hl 0 rfl) ?_
  refine lv_if_eq (tgt := 31) hx hb dX8_passMinute_11 (by decide) (fun c_11 => ?_) (fun c_11 => ?_)
  · refine lv_aload_n hx hb dX8_passMinute_31 rfl (lv_at hl 1 rfl) ?_
    refine lv_iload_n hx hb dX8_passMinute_32 rfl (lv_at hl 0 rfl) ?_
    refine va_put (D := E.1) (ci := 7) (v := .int f_1) (ty := .boolean) (C := RX8) (T := TX8) (N := 5) hx hb hts hi_X8 tyX8 tyX8_ok nmX8 hown hK.1 hP hD hS 0 rfl rfl 4 (by decide) (hts (.fieldLink RX8 29 "AltimeterWatch$Weather" "alarmAfterLastMinute" "Z") (by decide +kernel)) (fun _ h9 => h9) rfl (by decide +kernel) (z_bool (by rw [ef_1]; exact m_al01 _ _ _)) (z_fit (by rw [ef_1]; exact m_al01 _ _ _)) (Nat.le_of_ble_eq_true rfl) dX8_passMinute_33 (fun H locs hP hD hS => ?_)
    have hP : va_P E.1 vwCl ([[(h0, .inr (7, [.ref a0, .int (m_ln c0), .int l0, .int b0, .int f_1]))], [(a0, .inl (E.2 0, 60, .inl (m_lf c0 f x)))]] : List va_W).flatten H := hP
    have hD : va_D A ([[(h0, .inr (7, [.ref a0, .int (m_ln c0), .int l0, .int b0, .int f_1]))], [(a0, .inl (E.2 0, 60, .inl (m_lf c0 f x)))]] : List va_W).flatten := hD
    have hP : va_P E.1 vwCl ([[(h0, .inr (7, [.ref a0, .int (m_ln c0), .int l0, .int b0, .int f_1]))], [(a0, .inl (E.2 0, 60, .inl (m_lf c0 f x)))]] : List va_W).flatten H := zf_sub hP [0, 1] rfl
    have hD : va_D A ([[(h0, .inr (7, [.ref a0, .int (m_ln c0), .int l0, .int b0, .int f_1]))], [(a0, .inl (E.2 0, 60, .inl (m_lf c0 f x)))]] : List va_W).flatten := zf_subD hD [0, 1] (by decide) rfl
    exact W.vret hx hb hr (z_end hP hD hS (by rw [m_bg, if_pos (by rw [← ef_1]; exact c_11), ← ef_1])) hS.2.2 dX8_passMinute_36 hlocks
  · refine lv_aload_n hx hb dX8_passMinute_14 rfl (lv_at hl 1 rfl) ?_
    refine va_get (D := E.1) (ci := 7) (v := .int w0) (C := RX8) (T := TX8) (N := 5) hx hb hts hi_X8 hown hK.1 hP 0 rfl rfl 4 (by decide) (hts (.fieldLink RX8 29 "AltimeterWatch$Weather" "alarmAfterLastMinute" "Z") (by decide +kernel)) (fun _ h9 => h9) rfl dX8_passMinute_15 ?_
    refine lv_if_ne (tgt := 31) hx hb dX8_passMinute_18 (by decide) (fun c_18 => ?_) (fun c_18 => ?_)
    · refine lv_aload_n hx hb dX8_passMinute_31 rfl (lv_at hl 1 rfl) ?_
      refine lv_iload_n hx hb dX8_passMinute_32 rfl (lv_at hl 0 rfl) ?_
      refine va_put (D := E.1) (ci := 7) (v := .int f_1) (ty := .boolean) (C := RX8) (T := TX8) (N := 5) hx hb hts hi_X8 tyX8 tyX8_ok nmX8 hown hK.1 hP hD hS 0 rfl rfl 4 (by decide) (hts (.fieldLink RX8 29 "AltimeterWatch$Weather" "alarmAfterLastMinute" "Z") (by decide +kernel)) (fun _ h9 => h9) rfl (by decide +kernel) (z_bool (by rw [ef_1]; exact m_al01 _ _ _)) (z_fit (by rw [ef_1]; exact m_al01 _ _ _)) (Nat.le_of_ble_eq_true rfl) dX8_passMinute_33 (fun H locs hP hD hS => ?_)
      have hP : va_P E.1 vwCl ([[(h0, .inr (7, [.ref a0, .int (m_ln c0), .int l0, .int b0, .int f_1]))], [(a0, .inl (E.2 0, 60, .inl (m_lf c0 f x)))]] : List va_W).flatten H := hP
      have hD : va_D A ([[(h0, .inr (7, [.ref a0, .int (m_ln c0), .int l0, .int b0, .int f_1]))], [(a0, .inl (E.2 0, 60, .inl (m_lf c0 f x)))]] : List va_W).flatten := hD
      have hP : va_P E.1 vwCl ([[(h0, .inr (7, [.ref a0, .int (m_ln c0), .int l0, .int b0, .int f_1]))], [(a0, .inl (E.2 0, 60, .inl (m_lf c0 f x)))]] : List va_W).flatten H := zf_sub hP [0, 1] rfl
      have hD : va_D A ([[(h0, .inr (7, [.ref a0, .int (m_ln c0), .int l0, .int b0, .int f_1]))], [(a0, .inl (E.2 0, 60, .inl (m_lf c0 f x)))]] : List va_W).flatten := zf_subD hD [0, 1] (by decide) rfl
      exact W.vret hx hb hr (z_end hP hD hS (by rw [m_bg, if_neg (by rw [← ef_1]; exact c_11), if_neg c_18, ← ef_1])) hS.2.2 dX8_passMinute_36 hlocks
    · refine lv_aload_n hx hb dX8_passMinute_21 rfl (lv_at hl 1 rfl) ?_
      refine lv_dup hx hb dX8_passMinute_22 rfl ?_
      refine va_get (D := E.1) (ci := 7) (v := .int b0) (C := RX8) (T := TX8) (N := 5) hx hb hts hi_X8 hown hK.1 hP 0 rfl rfl 3 (by decide) (hts (.fieldLink RX8 26 "AltimeterWatch$Weather" "begun" "I") (by decide +kernel)) (fun _ h9 => h9) rfl dX8_passMinute_23 ?_
      refine lv_iconst (v := 1) hx hb dX8_passMinute_26 (by decide) ?_
      refine lv_iadd hx hb dX8_passMinute_27 ?_
      refine lv_topi (fun f_2 ef_2 => ?_)
      refine va_put (D := E.1) (ci := 7) (v := .int f_2) (ty := .int) (C := RX8) (T := TX8) (N := 5) hx hb hts hi_X8 tyX8 tyX8_ok nmX8 hown hK.1 hP hD hS 0 rfl rfl 3 (by decide) (hts (.fieldLink RX8 26 "AltimeterWatch$Weather" "begun" "I") (by decide +kernel)) (fun _ h9 => h9) rfl (by decide +kernel) rfl rfl (Nat.le_of_ble_eq_true rfl) dX8_passMinute_28 (fun H locs hP hD hS => ?_)
      have hP : va_P E.1 vwCl ([[(h0, .inr (7, [.ref a0, .int (m_ln c0), .int l0, .int f_2, .int w0]))], [(a0, .inl (E.2 0, 60, .inl (m_lf c0 f x)))]] : List va_W).flatten H := hP
      have hD : va_D A ([[(h0, .inr (7, [.ref a0, .int (m_ln c0), .int l0, .int f_2, .int w0]))], [(a0, .inl (E.2 0, 60, .inl (m_lf c0 f x)))]] : List va_W).flatten := hD
      refine lv_aload_n hx hb dX8_passMinute_31 rfl (lv_at hl 1 rfl) ?_
      refine lv_iload_n hx hb dX8_passMinute_32 rfl (lv_at hl 0 rfl) ?_
      refine va_put (D := E.1) (ci := 7) (v := .int f_1) (ty := .boolean) (C := RX8) (T := TX8) (N := 5) hx hb hts hi_X8 tyX8 tyX8_ok nmX8 hown hK.1 hP hD hS 0 rfl rfl 4 (by decide) (hts (.fieldLink RX8 29 "AltimeterWatch$Weather" "alarmAfterLastMinute" "Z") (by decide +kernel)) (fun _ h9 => h9) rfl (by decide +kernel) (z_bool (by rw [ef_1]; exact m_al01 _ _ _)) (z_fit (by rw [ef_1]; exact m_al01 _ _ _)) (Nat.le_of_ble_eq_true rfl) dX8_passMinute_33 (fun H locs hP hD hS => ?_)
      have hP : va_P E.1 vwCl ([[(h0, .inr (7, [.ref a0, .int (m_ln c0), .int l0, .int f_2, .int f_1]))], [(a0, .inl (E.2 0, 60, .inl (m_lf c0 f x)))]] : List va_W).flatten H := hP
      have hD : va_D A ([[(h0, .inr (7, [.ref a0, .int (m_ln c0), .int l0, .int f_2, .int f_1]))], [(a0, .inl (E.2 0, 60, .inl (m_lf c0 f x)))]] : List va_W).flatten := hD
      have hP : va_P E.1 vwCl ([[(h0, .inr (7, [.ref a0, .int (m_ln c0), .int l0, .int f_2, .int f_1]))], [(a0, .inl (E.2 0, 60, .inl (m_lf c0 f x)))]] : List va_W).flatten H := zf_sub hP [0, 1] rfl
      have hD : va_D A ([[(h0, .inr (7, [.ref a0, .int (m_ln c0), .int l0, .int f_2, .int f_1]))], [(a0, .inl (E.2 0, 60, .inl (m_lf c0 f x)))]] : List va_W).flatten := zf_subD hD [0, 1] (by decide) rfl
      exact W.vret hx hb hr (z_end hP hD hS (by rw [m_bg, if_neg (by rw [← ef_1]; exact c_11), if_pos c_18, ← ef_2, ← ef_1])) hS.2.2 dX8_passMinute_36 hlocks

/-- after how many minutes of a steady fall there is an alarm, as the class looks: k minutes more, from the m-th on -/
def m_mof (f : Nat → Int32) (cn : Nat) (p per lim : Int32) : Nat → Nat → Int32
  | 0, _ => -1
  | k + 1, m => if p - per * nI m < 5000 then -1
    else if lim ≤ (if m_mx f (cn - (60 - m)) (cn - (cn - (60 - m))) < p - per then p - per else m_mx f (cn - (60 - m)) (cn - (cn - (60 - m)))) - (p - per * nI m) then nI m
    else m_mof f cn p per lim k (m + 1)

set_option maxHeartbeats 4000000 in
set_option maxRecDepth 100000 in
theorem c_X8_minutesOfFall (l : Launch) (E : zE) (h0 a0 cn : Nat) (c0 lim b0 w0 p per r : Int32) (f : Nat → Int32) (hc : c0 = nI cn) (hcn : cn ≤ 60) (er : r = m_mof f cn p per lim 60 1) : zR l yX8_minutesOfFall wsX8_minutesOfFall ({ frames := 2, cells := 0, slots := 0, locals := 44 }) E [.ref h0, .int p, .int per] ([[(h0, .inr (7, [.ref a0, .int c0, .int lim, .int b0, .int w0]))], [(a0, .inl (E.2 0, 60, .inl f))]] : List va_W).flatten (some (.int r)) := by
  refine z_startr (cc := cX8_minutesOfFall) (maxL := 6) (ret := (some .int)) (by decide) rfl (Nat.le_of_ble_eq_true rfl) ?_
  intro Pg En s Mi below meth Cd hx hb hr hts hown hlocks hml hP hK ls hl
  have hl : lv_has ls 6 [(0, .ref h0), (1, .int p), (2, .int per)] := hl
  have hi_X8 : ∀ w ∈ wsX80, w ∈ wsX8_minutesOfFall := by decide +kernel
  have LOOP_2 : ∀ (n : Nat) (m : Nat) (x : Int32), 61 < m + n → m ≤ 61 → 1 ≤ m → x = nI m → r = m_mof f cn p per lim (61 - m) m →  ∀ (ls : Array Slot), lv_has ls 6 [(0, .ref h0), (1, .int p), (2, .int per), (3, .int x)] → W Pg l En ({ frames := 2, cells := 0, slots := 0, locals := 44 } : Room) s Mi ([.ref h0, .int p, .int per] : List Value).toArray below meth Cd s.heap [] 0 0 (MQ below (zQr (some (.int r))) ([.ref h0, .int p, .int per] : List Value).toArray s 0 0 (fun _ => False)) (F0 Mi 2 ls []) := by
    intro n
    induction n with
    | zero => intro m x h1 h2 h3 h4 h5; exact absurd h1 (by omega)
    | succ n ih =>
      intro m x h1 h2 h3 h4 h5 ls hl
      refine lv_iload_n hx hb dX8_minutesOfFall_2 rfl (lv_at hl 3 rfl) ?_
      refine lv_bipush (v := 60) hx hb dX8_minutesOfFall_3 (by decide) ?_
      refine lv_icmp_gt (tgt := 61) hx hb dX8_minutesOfFall_5 (by decide) (fun c_5 => ?_) (fun c_5 => ?_)
      · refine lv_iconst (v := (-1)) hx hb dX8_minutesOfFall_61 (by decide) ?_
        refine z_topi (y := r) (by have e : m = 61 := by { have := nI_ltn (a := 60) (b := m) (by decide) (by omega) (h4 ▸ c_5); omega }; rw [h5, e]; rfl) ?_
        exact W.iret (v := r) hx hb hr z_endR (fun _ h => by cases h) dX8_minutesOfFall_62 hlocks
      · have hm : m ≤ 60 := by { have := nI_nltn (a := 60) (b := m) (by decide) (by omega) (h4 ▸ c_5); omega }
        refine lv_iload_n hx hb dX8_minutesOfFall_8 rfl (lv_at hl 1 rfl) ?_
        refine lv_iload_n hx hb dX8_minutesOfFall_9 rfl (lv_at hl 2 rfl) ?_
        refine lv_iload_n hx hb dX8_minutesOfFall_10 rfl (lv_at hl 3 rfl) ?_
        refine lv_imul hx hb dX8_minutesOfFall_11 ?_
        refine lv_isub hx hb dX8_minutesOfFall_12 ?_
        refine lv_topi (fun f_1 ef_1 => ?_)
        refine lv_istore (lv' := [(4, .int f_1), (0, .ref h0), (1, .int p), (2, .int per), (3, .int x)]) hx hb dX8_minutesOfFall_13 hl (by decide) rfl (fun ls hl => ?_)
        refine lv_iload hx hb dX8_minutesOfFall_15 (lv_at hl 0 rfl) ?_
        refine lv_sipush (v := 5000) hx hb dX8_minutesOfFall_17 (by decide) ?_
        refine lv_icmp_ge (tgt := 25) hx hb dX8_minutesOfFall_20 (by decide) (fun c_20 => ?_) (fun c_20 => ?_)
        · refine lv_aload_n hx hb dX8_minutesOfFall_25 rfl (lv_at hl 1 rfl) ?_
          refine lv_bipush (v := 60) hx hb dX8_minutesOfFall_26 (by decide) ?_
          refine lv_iload_n hx hb dX8_minutesOfFall_28 rfl (lv_at hl 4 rfl) ?_
          refine lv_isub hx hb dX8_minutesOfFall_29 ?_
          have hPc : va_P E.1 vwCl ([[(h0, .inr (7, [.ref a0, .int c0, .int lim, .int b0, .int w0]))], [(a0, .inl (E.2 0, 60, .inl f))]] : List va_W).flatten s.heap := zf_sub hP [0, 1] rfl
          refine z_rdv (va_runV (As := [.int (60 - x)]) (rest := []) ⟨hx, hb, hml, hown, hts⟩ (c_X8_greatestOfLatest l E h0 a0 cn (60 - m) c0 lim b0 w0 (60 - x) f hc hcn (by rw [h4]; exact pk_sub (a := 60) (by omega)) (by omega)) (cwV 1 hts gX8_minutesOfFall_X8_greatestOfLatest rfl rfl rfl (by decide +kernel) ⟨Nat.le_of_ble_eq_true rfl, Nat.le_of_ble_eq_true rfl⟩) ⟨zPr.blind, va_recv hK.1 hPc (ci := 7) (q0 := 0) rfl rfl, z_prer hK hPc⟩ rfl rfl hl.1 rfl (lv_room (Nat.le_of_ble_eq_true rfl)) dX8_minutesOfFall_30 ⟨Nat.le_of_ble_eq_true rfl, Nat.le_of_ble_eq_true rfl⟩) ?_
          refine W.eq (g2 := F0 Mi 33 ls [.int (m_mx f (cn - (60 - m)) (cn - (cn - (60 - m))))]) rfl ?_
          refine lv_iload_n hx hb dX8_minutesOfFall_33 rfl (lv_at hl 2 rfl) ?_
          refine lv_iload_n hx hb dX8_minutesOfFall_34 rfl (lv_at hl 3 rfl) ?_
          refine lv_isub hx hb dX8_minutesOfFall_35 ?_
          refine va_mmax hx hb (by rw [hml]; exact hl.1.symm) hown (hts (.methodLink RX8 57 Lib.Math.max.name) (by decide +kernel)) (hts (.static Lib.Math.max.name) (by decide +kernel)) (hts (.initialized "java/lang/Math") (by decide +kernel)) (hts (.code Lib.Math.max.name Lib.Math.max.code 2 (some .int)) (by decide +kernel)) (Nat.le_of_ble_eq_true rfl) (Nat.le_of_ble_eq_true rfl) (Nat.le_of_ble_eq_true rfl) (Nat.le_of_ble_eq_true rfl) dX8_minutesOfFall_36 ?_
          refine lv_topi (fun f_2 ef_2 => ?_)
          refine lv_istore (lv' := [(5, .int f_2), (4, .int f_1), (0, .ref h0), (1, .int p), (2, .int per), (3, .int x)]) hx hb dX8_minutesOfFall_39 hl (by decide) rfl (fun ls hl => ?_)
          refine lv_iload hx hb dX8_minutesOfFall_41 (lv_at hl 0 rfl) ?_
          refine lv_iload hx hb dX8_minutesOfFall_43 (lv_at hl 1 rfl) ?_
          refine lv_isub hx hb dX8_minutesOfFall_45 ?_
          refine lv_aload_n hx hb dX8_minutesOfFall_46 rfl (lv_at hl 2 rfl) ?_
          refine va_get (D := E.1) (ci := 7) (v := .int lim) (C := RX8) (T := TX8) (N := 5) hx hb hts hi_X8 hown hK.1 hP 0 rfl rfl 2 (by decide) (hts (.fieldLink RX8 15 "AltimeterWatch$Weather" "limit" "I") (by decide +kernel)) (fun _ h9 => h9) rfl dX8_minutesOfFall_47 ?_
          refine lv_icmp_lt (tgt := 55) hx hb dX8_minutesOfFall_50 (by decide) (fun c_50 => ?_) (fun c_50 => ?_)
          · have c20 : ¬ p - per * nI m < 5000 := by rw [← h4, ← ef_1]; exact Int32.not_lt.mpr c_20
            have c50 : ¬ lim ≤ (if m_mx f (cn - (60 - m)) (cn - (cn - (60 - m))) < p - per then p - per else m_mx f (cn - (60 - m)) (cn - (cn - (60 - m)))) - (p - per * nI m) := by rw [← h4, ← ef_1, ← ef_2]; exact Int32.not_le.mpr c_50
            obtain ⟨x_3, ex_3⟩ : ∃ y : Int32, y = x + 1 := ⟨_, rfl⟩
            refine lv_iinc (v := x_3) (lv' := [(3, .int x_3), (5, .int f_2), (4, .int f_1), (0, .ref h0), (1, .int p), (2, .int per)]) hx hb dX8_minutesOfFall_55 hl (k := 5) rfl (by rw [ex_3]; rfl) (by decide) rfl (fun ls hl => ?_)
            refine lv_goto (tgt := 2) hx hb dX8_minutesOfFall_58 (by decide) ?_
            exact ih (m + 1) x_3 (by omega) (by omega) (by omega) (by rw [ex_3, h4]; exact nI_1 m) (by rw [h5, show 61 - m = 61 - (m + 1) + 1 by omega, m_mof, if_neg c20, if_neg c50]) ls (lv_sub hl [3, 4, 5, 0] rfl)
          · refine lv_iload_n hx hb dX8_minutesOfFall_53 rfl (lv_at hl 5 rfl) ?_
            refine z_topi (y := r) (by rw [h5, show 61 - m = 60 - m + 1 by omega, m_mof, if_neg (by rw [← h4, ← ef_1]; exact Int32.not_lt.mpr c_20), if_pos (by rw [← h4, ← ef_1, ← ef_2]; exact Int32.not_lt.mp c_50), h4]) ?_
            exact W.iret (v := r) hx hb hr z_endR (fun _ h => by cases h) dX8_minutesOfFall_54 hlocks
        · refine lv_iconst (v := (-1)) hx hb dX8_minutesOfFall_23 (by decide) ?_
          refine z_topi (y := r) (by rw [h5, show 61 - m = 60 - m + 1 by omega, m_mof, if_pos (by rw [← h4, ← ef_1]; exact Int32.not_le.mp c_20)]) ?_
          exact W.iret (v := r) hx hb hr z_endR (fun _ h => by cases h) dX8_minutesOfFall_24 hlocks
  refine lv_iconst (v := 1) hx hb dX8_minutesOfFall_0 (by decide) ?_
  refine lv_istore_n (lv' := [(3, .int 1), (0, .ref h0), (1, .int p), (2, .int per)]) hx hb dX8_minutesOfFall_1 rfl hl (by decide) rfl (fun ls hl => ?_)
  exact LOOP_2 61 1 1 (by decide) (by decide) (by decide) rfl er ls (lv_sub hl [1, 2, 3, 0] rfl)

