set_option maxHeartbeats 4000000 in
set_option maxRecDepth 100000 in
theorem c_X5_init (l : Launch) (E : zE) (h0 : Nat) : zX l yX5_init wsX5_init ({ frames := 2, cells := 7, slots := 103, locals := 40 }) E [.ref h0] ([[(h0, .inr (4, [.int 0, .int 0, .int 0, .int 0, .int 0, .int 0, .int 0, .null, .null, .null]))]] : List va_W).flatten none (fun u : Nat → Nat => ([z_St E (z_ad h0 (u 1) (u 2) (u 3) (u 4) (u 5) (u 6) (u 7)) m_g0] : List va_W).flatten) 7 103 := by
  refine z_startx (cc := cX5_init) (maxL := 1) (ret := none) (by decide) rfl (Nat.le_of_ble_eq_true rfl) ?_
  intro Pg En s Mi below meth Cd A hx hb hr hts hown hlocks hin hml hA H hH hP hK hD hS ls hl
  have hl : lv_has ls 1 [(0, .ref h0)] := hl
  have hi_X1 : ∀ w ∈ wsX10, w ∈ wsX5_init := by decide +kernel
  have hi_X2 : ∀ w ∈ wsX20, w ∈ wsX5_init := by decide +kernel
  have hi_X5 : ∀ w ∈ wsX50, w ∈ wsX5_init := by decide +kernel
  have hi_X8 : ∀ w ∈ wsX80, w ∈ wsX5_init := by decide +kernel
  refine lv_aload_n hx hb dX5_init_0 rfl (lv_at hl 0 rfl) ?_
  refine W.objInit hx hb hown (hts (.methodLink RX5 3 objectInit) (by decide +kernel)) (hts (.instanceMethod objectInit) (by decide +kernel)) (hts (.code objectInit ⟨#[0xb1]⟩ 1 none) (by decide +kernel)) rfl (by rw [hml]; exact hl.1) rfl dX5_init_1 (Nat.le_of_ble_eq_true rfl) (Nat.le_of_ble_eq_true rfl) ?_
  refine W.eq (g2 := F0 Mi 4 ls []) rfl ?_
  refine lv_aload_n hx hb dX5_init_4 rfl (lv_at hl 0 rfl) ?_
  refine lv_sipush (v := 10132) hx hb dX5_init_5 (by decide) ?_
  refine va_put (D := E.1) (ci := 4) (v := .int 10132) (ty := .int) (C := RX5) (T := TX5) (N := 10) hx hb hts hi_X5 tyX5 tyX5_ok nmX5 hown hK.1 hP hD hS 0 rfl rfl 2 (by decide) (hts (.fieldLink RX5 9 "AltimeterWatch$State" "pressure" "I") (by decide +kernel)) (fun _ h9 => h9) rfl (by decide +kernel) rfl rfl (Nat.le_of_ble_eq_true rfl) dX5_init_8 (fun H locs hP hD hS => ?_)
  have hP : va_P E.1 vwCl ([[(h0, .inr (4, [.int 0, .int 0, .int 10132, .int 0, .int 0, .int 0, .int 0, .null, .null, .null]))]] : List va_W).flatten H := hP
  have hD : va_D A ([[(h0, .inr (4, [.int 0, .int 0, .int 10132, .int 0, .int 0, .int 0, .int 0, .null, .null, .null]))]] : List va_W).flatten := hD
  refine lv_aload_n hx hb dX5_init_11 rfl (lv_at hl 0 rfl) ?_
  refine lv_sipush (v := 10132) hx hb dX5_init_12 (by decide) ?_
  refine va_put (D := E.1) (ci := 4) (v := .int 10132) (ty := .int) (C := RX5) (T := TX5) (N := 10) hx hb hts hi_X5 tyX5 tyX5_ok nmX5 hown hK.1 hP hD hS 0 rfl rfl 3 (by decide) (hts (.fieldLink RX5 15 "AltimeterWatch$State" "sea" "I") (by decide +kernel)) (fun _ h9 => h9) rfl (by decide +kernel) rfl rfl (Nat.le_of_ble_eq_true rfl) dX5_init_15 (fun H locs hP hD hS => ?_)
  have hP : va_P E.1 vwCl ([[(h0, .inr (4, [.int 0, .int 0, .int 10132, .int 10132, .int 0, .int 0, .int 0, .null, .null, .null]))]] : List va_W).flatten H := hP
  have hD : va_D A ([[(h0, .inr (4, [.int 0, .int 0, .int 10132, .int 10132, .int 0, .int 0, .int 0, .null, .null, .null]))]] : List va_W).flatten := hD
  refine lv_aload_n hx hb dX5_init_18 rfl (lv_at hl 0 rfl) ?_
  refine va_new (D := E.1) (ci := 0) (fs := [.int 0, .int 0, .int 0, .int 0]) (C := RX1) (T := TX1) (N := 4) hx hb hts hi_X1 tyX1 tyX1_ok hown (hts (.classLink RX5 18 RX1) (by decide +kernel)) (hts (.instantiable RX1 4) (by decide +kernel)) (hts (.initialized RX1) (by decide +kernel)) hK.1 hP hD hS hA rfl (fun j hj => by rcases (show j = 0 ∨ j = 1 ∨ j = 2 ∨ j = 3 by omega) with rfl | rfl | rfl | rfl <;> rfl) (Nat.le_of_ble_eq_true rfl) (Nat.le_of_ble_eq_true rfl) dX5_init_19 (fun q_19 H hP hD hS => ?_)
  have hP : va_P E.1 vwCl ([[(h0, .inr (4, [.int 0, .int 0, .int 10132, .int 10132, .int 0, .int 0, .int 0, .null, .null, .null]))], [(q_19, .inr (0, [.int 0, .int 0, .int 0, .int 0]))]] : List va_W).flatten H := hP
  have hD : va_D A ([[(h0, .inr (4, [.int 0, .int 0, .int 10132, .int 10132, .int 0, .int 0, .int 0, .null, .null, .null]))], [(q_19, .inr (0, [.int 0, .int 0, .int 0, .int 0]))]] : List va_W).flatten := hD
  refine W.widen (k := 1) (n := 4) (by decide) (by decide) ?_
  refine lv_dup hx hb dX5_init_22 rfl ?_
  have hPc : va_P E.1 vwCl ([[(q_19, .inr (0, [.int 0, .int 0, .int 0, .int 0]))]] : List va_W).flatten H := zf_sub hP [1] rfl
  have hDc : va_D A ([[(q_19, .inr (0, [.int 0, .int 0, .int 0, .int 0]))]] : List va_W).flatten := zf_subD hD [1] (by decide) rfl
  refine z_mut (Sc := [[(q_19, .inr (0, [.int 0, .int 0, .int 0, .int 0]))]]) (Sr := [[(h0, .inr (4, [.int 0, .int 0, .int 10132, .int 10132, .int 0, .int 0, .int 0, .null, .null, .null]))]]) (W1 := [[(q_19, .inr (0, [.int 0, .int 0, .int 0, .int 50]))]]) (va_runIN (As := []) (rest := [.ref q_19, .ref h0]) ⟨hx, hb, hml, hown, hts⟩ (c_X1_init l E q_19 0 0 0 0 H.size) (⟨va_cnB 0 hts gX5_init_X1_init_n20 rfl rfl rfl (hK.2.2.2.2.2.2.2.2.2.2.1) (hts (.initialized RX1) (by decide +kernel)) (by decide +kernel) ⟨Nat.le_of_ble_eq_true rfl, Nat.le_of_ble_eq_true rfl⟩, rfl, hts (.instanceMethod yX1_init) (by decide +kernel)⟩) ⟨zP.blind, z_pre hK hPc hDc⟩ rfl rfl hl.1 rfl (lv_room (Nat.le_of_ble_eq_true rfl)) dX5_init_23 ⟨Nat.le_of_ble_eq_true rfl, Nat.le_of_ble_eq_true rfl⟩) hP hD hS hA [1] [0] rfl rfl (by decide) (by decide) (fun H locs hP hD hS => ?_)
  have hP : va_P E.1 vwCl ([[(h0, .inr (4, [.int 0, .int 0, .int 10132, .int 10132, .int 0, .int 0, .int 0, .null, .null, .null]))], [(q_19, .inr (0, [.int 0, .int 0, .int 0, .int 50]))]] : List va_W).flatten H := hP
  have hD : va_D A ([[(h0, .inr (4, [.int 0, .int 0, .int 10132, .int 10132, .int 0, .int 0, .int 0, .null, .null, .null]))], [(q_19, .inr (0, [.int 0, .int 0, .int 0, .int 50]))]] : List va_W).flatten := hD
  refine W.eq (g2 := F0 Mi 26 ls [.ref q_19, .ref h0]) rfl ?_
  refine va_putF (D := E.1) (ci := 4) (v := .ref q_19) (ty := .object "AltimeterWatch$Climb") (C := RX5) (T := TX5) (N := 10) hx hb hts hi_X5 tyX5 tyX5_ok nmX5 hown hK.1 hP hD hS 0 rfl rfl 7 (by decide) (hts (.fieldLink RX5 21 "AltimeterWatch$State" "climb" "LAltimeterWatch$Climb;") (by decide +kernel)) (fun _ h9 => h9) rfl hin rfl (by decide +kernel) rfl rfl (Nat.le_of_ble_eq_true rfl) dX5_init_26 (fun H locs hP hD hS => ?_)
  have hP : va_P E.1 vwCl ([[(h0, .inr (4, [.int 0, .int 0, .int 10132, .int 10132, .int 0, .int 0, .int 0, .ref q_19, .null, .null]))], [(q_19, .inr (0, [.int 0, .int 0, .int 0, .int 50]))]] : List va_W).flatten H := hP
  have hD : va_D A ([[(h0, .inr (4, [.int 0, .int 0, .int 10132, .int 10132, .int 0, .int 0, .int 0, .ref q_19, .null, .null]))], [(q_19, .inr (0, [.int 0, .int 0, .int 0, .int 50]))]] : List va_W).flatten := hD
  refine lv_aload_n hx hb dX5_init_29 rfl (lv_at hl 0 rfl) ?_
  refine va_new (D := E.1) (ci := 7) (fs := [.null, .int 0, .int 0, .int 0, .int 0]) (C := RX8) (T := TX8) (N := 5) hx hb hts hi_X8 tyX8 tyX8_ok hown (hts (.classLink RX5 25 RX8) (by decide +kernel)) (hts (.instantiable RX8 5) (by decide +kernel)) (hts (.initialized RX8) (by decide +kernel)) hK.1 hP hD hS hA rfl (fun j hj => by rcases (show j = 0 ∨ j = 1 ∨ j = 2 ∨ j = 3 ∨ j = 4 by omega) with rfl | rfl | rfl | rfl | rfl <;> rfl) (Nat.le_of_ble_eq_true rfl) (Nat.le_of_ble_eq_true rfl) dX5_init_30 (fun q_30 H hP hD hS => ?_)
  have hP : va_P E.1 vwCl ([[(h0, .inr (4, [.int 0, .int 0, .int 10132, .int 10132, .int 0, .int 0, .int 0, .ref q_19, .null, .null]))], [(q_19, .inr (0, [.int 0, .int 0, .int 0, .int 50]))], [(q_30, .inr (7, [.null, .int 0, .int 0, .int 0, .int 0]))]] : List va_W).flatten H := hP
  have hD : va_D A ([[(h0, .inr (4, [.int 0, .int 0, .int 10132, .int 10132, .int 0, .int 0, .int 0, .ref q_19, .null, .null]))], [(q_19, .inr (0, [.int 0, .int 0, .int 0, .int 50]))], [(q_30, .inr (7, [.null, .int 0, .int 0, .int 0, .int 0]))]] : List va_W).flatten := hD
  refine W.widen (k := 2) (n := 9) (by decide) (by decide) ?_
  refine lv_dup hx hb dX5_init_33 rfl ?_
  have hPc : va_P E.1 vwCl ([[(q_30, .inr (7, [.null, .int 0, .int 0, .int 0, .int 0]))]] : List va_W).flatten H := zf_sub hP [2] rfl
  have hDc : va_D A ([[(q_30, .inr (7, [.null, .int 0, .int 0, .int 0, .int 0]))]] : List va_W).flatten := zf_subD hD [2] (by decide) rfl
  refine z_mutx (Sc := [[(q_30, .inr (7, [.null, .int 0, .int 0, .int 0, .int 0]))]]) (Sr := [[(h0, .inr (4, [.int 0, .int 0, .int 10132, .int 10132, .int 0, .int 0, .int 0, .ref q_19, .null, .null]))], [(q_19, .inr (0, [.int 0, .int 0, .int 0, .int 50]))]]) (va_runIN (As := []) (rest := [.ref q_30, .ref h0]) ⟨hx, hb, hml, hown, hts⟩ (c_X8_init l E q_30 0 0 0 0 H.size) (⟨va_cnB 0 hts gX5_init_X8_init_n27 rfl rfl rfl (hK.2.2.2.2.2.2.2.2.2.2.2.1) (hts (.initialized RX8) (by decide +kernel)) (by decide +kernel) ⟨Nat.le_of_ble_eq_true rfl, Nat.le_of_ble_eq_true rfl⟩, rfl, hts (.instanceMethod yX8_init) (by decide +kernel)⟩) ⟨zP.blind, z_pre hK hPc hDc⟩ rfl rfl hl.1 rfl (lv_room (Nat.le_of_ble_eq_true rfl)) dX5_init_34 ⟨Nat.le_of_ble_eq_true rfl, Nat.le_of_ble_eq_true rfl⟩) hP hD hS hA [2] [0, 1] rfl rfl (by decide) (by decide) (fun a_34 H locs hP hD hS => ?_)
  have hP : va_P E.1 vwCl ([[(h0, .inr (4, [.int 0, .int 0, .int 10132, .int 10132, .int 0, .int 0, .int 0, .ref q_19, .null, .null]))], [(q_19, .inr (0, [.int 0, .int 0, .int 0, .int 50]))], [(q_30, .inr (7, [.ref a_34, .int 0, .int 40, .int 0, .int 0]))], [(a_34, .inl (E.2 0, 60, .inl (fun _ => 0)))]] : List va_W).flatten H := hP
  have hD : va_D A ([[(h0, .inr (4, [.int 0, .int 0, .int 10132, .int 10132, .int 0, .int 0, .int 0, .ref q_19, .null, .null]))], [(q_19, .inr (0, [.int 0, .int 0, .int 0, .int 50]))], [(q_30, .inr (7, [.ref a_34, .int 0, .int 40, .int 0, .int 0]))], [(a_34, .inl (E.2 0, 60, .inl (fun _ => 0)))]] : List va_W).flatten := hD
  refine W.widen (k := 3) (n := 69) (by decide) (by decide) ?_
  refine W.eq (g2 := F0 Mi 37 ls [.ref q_30, .ref h0]) rfl ?_
  refine va_putF (D := E.1) (ci := 4) (v := .ref q_30) (ty := .object "AltimeterWatch$Weather") (C := RX5) (T := TX5) (N := 10) hx hb hts hi_X5 tyX5 tyX5_ok nmX5 hown hK.1 hP hD hS 0 rfl rfl 8 (by decide) (hts (.fieldLink RX5 28 "AltimeterWatch$State" "weather" "LAltimeterWatch$Weather;") (by decide +kernel)) (fun _ h9 => h9) rfl hin rfl (by decide +kernel) rfl rfl (Nat.le_of_ble_eq_true rfl) dX5_init_37 (fun H locs hP hD hS => ?_)
  have hP : va_P E.1 vwCl ([[(h0, .inr (4, [.int 0, .int 0, .int 10132, .int 10132, .int 0, .int 0, .int 0, .ref q_19, .ref q_30, .null]))], [(q_19, .inr (0, [.int 0, .int 0, .int 0, .int 50]))], [(q_30, .inr (7, [.ref a_34, .int 0, .int 40, .int 0, .int 0]))], [(a_34, .inl (E.2 0, 60, .inl (fun _ => 0)))]] : List va_W).flatten H := hP
  have hD : va_D A ([[(h0, .inr (4, [.int 0, .int 0, .int 10132, .int 10132, .int 0, .int 0, .int 0, .ref q_19, .ref q_30, .null]))], [(q_19, .inr (0, [.int 0, .int 0, .int 0, .int 50]))], [(q_30, .inr (7, [.ref a_34, .int 0, .int 40, .int 0, .int 0]))], [(a_34, .inl (E.2 0, 60, .inl (fun _ => 0)))]] : List va_W).flatten := hD
  refine lv_aload_n hx hb dX5_init_40 rfl (lv_at hl 0 rfl) ?_
  refine va_new (D := E.1) (ci := 1) (fs := [.null, .null, .null, .int 0]) (C := RX2) (T := TX2) (N := 4) hx hb hts hi_X2 tyX2 tyX2_ok hown (hts (.classLink RX5 32 RX2) (by decide +kernel)) (hts (.instantiable RX2 4) (by decide +kernel)) (hts (.initialized RX2) (by decide +kernel)) hK.1 hP hD hS hA rfl (fun j hj => by rcases (show j = 0 ∨ j = 1 ∨ j = 2 ∨ j = 3 by omega) with rfl | rfl | rfl | rfl <;> rfl) (Nat.le_of_ble_eq_true rfl) (Nat.le_of_ble_eq_true rfl) dX5_init_41 (fun q_41 H hP hD hS => ?_)
  have hP : va_P E.1 vwCl ([[(h0, .inr (4, [.int 0, .int 0, .int 10132, .int 10132, .int 0, .int 0, .int 0, .ref q_19, .ref q_30, .null]))], [(q_19, .inr (0, [.int 0, .int 0, .int 0, .int 50]))], [(q_30, .inr (7, [.ref a_34, .int 0, .int 40, .int 0, .int 0]))], [(a_34, .inl (E.2 0, 60, .inl (fun _ => 0)))], [(q_41, .inr (1, [.null, .null, .null, .int 0]))]] : List va_W).flatten H := hP
  have hD : va_D A ([[(h0, .inr (4, [.int 0, .int 0, .int 10132, .int 10132, .int 0, .int 0, .int 0, .ref q_19, .ref q_30, .null]))], [(q_19, .inr (0, [.int 0, .int 0, .int 0, .int 50]))], [(q_30, .inr (7, [.ref a_34, .int 0, .int 40, .int 0, .int 0]))], [(a_34, .inl (E.2 0, 60, .inl (fun _ => 0)))], [(q_41, .inr (1, [.null, .null, .null, .int 0]))]] : List va_W).flatten := hD
  refine W.widen (k := 4) (n := 73) (by decide) (by decide) ?_
  refine lv_dup hx hb dX5_init_44 rfl ?_
  have hPc : va_P E.1 vwCl ([[(q_41, .inr (1, [.null, .null, .null, .int 0]))]] : List va_W).flatten H := zf_sub hP [4] rfl
  have hDc : va_D A ([[(q_41, .inr (1, [.null, .null, .null, .int 0]))]] : List va_W).flatten := zf_subD hD [4] (by decide) rfl
  refine z_mutx (Sc := [[(q_41, .inr (1, [.null, .null, .null, .int 0]))]]) (Sr := [[(h0, .inr (4, [.int 0, .int 0, .int 10132, .int 10132, .int 0, .int 0, .int 0, .ref q_19, .ref q_30, .null]))], [(q_19, .inr (0, [.int 0, .int 0, .int 0, .int 50]))], [(q_30, .inr (7, [.ref a_34, .int 0, .int 40, .int 0, .int 0]))], [(a_34, .inl (E.2 0, 60, .inl (fun _ => 0)))]]) (va_runIN (As := []) (rest := [.ref q_41, .ref h0]) ⟨hx, hb, hml, hown, hts⟩ (c_X2_init l E q_41 0 H.size) (⟨va_cnB 0 hts gX5_init_X2_init_n34 rfl rfl rfl (hK.2.2.2.2.2.2.2.2.2.2.2.2.1) (hts (.initialized RX2) (by decide +kernel)) (by decide +kernel) ⟨Nat.le_of_ble_eq_true rfl, Nat.le_of_ble_eq_true rfl⟩, rfl, hts (.instanceMethod yX2_init) (by decide +kernel)⟩) ⟨zP.blind, z_pre hK hPc hDc⟩ rfl rfl hl.1 rfl (lv_room (Nat.le_of_ble_eq_true rfl)) dX5_init_45 ⟨Nat.le_of_ble_eq_true rfl, Nat.le_of_ble_eq_true rfl⟩) hP hD hS hA [4] [0, 1, 2, 3] rfl rfl (by decide) (by decide) (fun ⟨a_45x, a_45y, a_45z⟩ H locs hP hD hS => ?_)
  have hP : va_P E.1 vwCl ([[(h0, .inr (4, [.int 0, .int 0, .int 10132, .int 10132, .int 0, .int 0, .int 0, .ref q_19, .ref q_30, .null]))], [(q_19, .inr (0, [.int 0, .int 0, .int 0, .int 50]))], [(q_30, .inr (7, [.ref a_34, .int 0, .int 40, .int 0, .int 0]))], [(a_34, .inl (E.2 0, 60, .inl (fun _ => 0)))], [(q_41, .inr (1, [.ref a_45x, .ref a_45y, .ref a_45z, .int 0]))], [(a_45x, .inl (E.2 0, 10, .inl (fun _ => 0)))], [(a_45y, .inl (E.2 0, 10, .inl (fun _ => 0)))], [(a_45z, .inl (E.2 0, 10, .inl (fun _ => 0)))]] : List va_W).flatten H := hP
  have hD : va_D A ([[(h0, .inr (4, [.int 0, .int 0, .int 10132, .int 10132, .int 0, .int 0, .int 0, .ref q_19, .ref q_30, .null]))], [(q_19, .inr (0, [.int 0, .int 0, .int 0, .int 50]))], [(q_30, .inr (7, [.ref a_34, .int 0, .int 40, .int 0, .int 0]))], [(a_34, .inl (E.2 0, 60, .inl (fun _ => 0)))], [(q_41, .inr (1, [.ref a_45x, .ref a_45y, .ref a_45z, .int 0]))], [(a_45x, .inl (E.2 0, 10, .inl (fun _ => 0)))], [(a_45y, .inl (E.2 0, 10, .inl (fun _ => 0)))], [(a_45z, .inl (E.2 0, 10, .inl (fun _ => 0)))]] : List va_W).flatten := hD
  refine W.widen (k := 7) (n := 103) (by decide) (by decide) ?_
  refine W.eq (g2 := F0 Mi 48 ls [.ref q_41, .ref h0]) rfl ?_
  refine va_putF (D := E.1) (ci := 4) (v := .ref q_41) (ty := .object "AltimeterWatch$Marks") (C := RX5) (T := TX5) (N := 10) hx hb hts hi_X5 tyX5 tyX5_ok nmX5 hown hK.1 hP hD hS 0 rfl rfl 9 (by decide) (hts (.fieldLink RX5 35 "AltimeterWatch$State" "marks" "LAltimeterWatch$Marks;") (by decide +kernel)) (fun _ h9 => h9) rfl hin rfl (by decide +kernel) rfl rfl (Nat.le_of_ble_eq_true rfl) dX5_init_48 (fun H locs hP hD hS => ?_)
  have hP : va_P E.1 vwCl ([[(h0, .inr (4, [.int 0, .int 0, .int 10132, .int 10132, .int 0, .int 0, .int 0, .ref q_19, .ref q_30, .ref q_41]))], [(q_19, .inr (0, [.int 0, .int 0, .int 0, .int 50]))], [(q_30, .inr (7, [.ref a_34, .int 0, .int 40, .int 0, .int 0]))], [(a_34, .inl (E.2 0, 60, .inl (fun _ => 0)))], [(q_41, .inr (1, [.ref a_45x, .ref a_45y, .ref a_45z, .int 0]))], [(a_45x, .inl (E.2 0, 10, .inl (fun _ => 0)))], [(a_45y, .inl (E.2 0, 10, .inl (fun _ => 0)))], [(a_45z, .inl (E.2 0, 10, .inl (fun _ => 0)))]] : List va_W).flatten H := hP
  have hD : va_D A ([[(h0, .inr (4, [.int 0, .int 0, .int 10132, .int 10132, .int 0, .int 0, .int 0, .ref q_19, .ref q_30, .ref q_41]))], [(q_19, .inr (0, [.int 0, .int 0, .int 0, .int 50]))], [(q_30, .inr (7, [.ref a_34, .int 0, .int 40, .int 0, .int 0]))], [(a_34, .inl (E.2 0, 60, .inl (fun _ => 0)))], [(q_41, .inr (1, [.ref a_45x, .ref a_45y, .ref a_45z, .int 0]))], [(a_45x, .inl (E.2 0, 10, .inl (fun _ => 0)))], [(a_45y, .inl (E.2 0, 10, .inl (fun _ => 0)))], [(a_45z, .inl (E.2 0, 10, .inl (fun _ => 0)))]] : List va_W).flatten := hD
  have hP : va_P E.1 vwCl ([[(h0, .inr (4, [.int 0, .int 0, .int 10132, .int 10132, .int 0, .int 0, .int 0, .ref q_19, .ref q_30, .ref q_41]))], [(q_19, .inr (0, [.int 0, .int 0, .int 0, .int 50]))], [(q_30, .inr (7, [.ref a_34, .int 0, .int 40, .int 0, .int 0]))], [(a_34, .inl (E.2 0, 60, .inl (fun _ => 0)))], [(q_41, .inr (1, [.ref a_45x, .ref a_45y, .ref a_45z, .int 0]))], [(a_45x, .inl (E.2 0, 10, .inl (fun _ => 0)))], [(a_45y, .inl (E.2 0, 10, .inl (fun _ => 0)))], [(a_45z, .inl (E.2 0, 10, .inl (fun _ => 0)))]] : List va_W).flatten H := zf_sub hP [0, 1, 2, 3, 4, 5, 6, 7] rfl
  have hD : va_D A ([[(h0, .inr (4, [.int 0, .int 0, .int 10132, .int 10132, .int 0, .int 0, .int 0, .ref q_19, .ref q_30, .ref q_41]))], [(q_19, .inr (0, [.int 0, .int 0, .int 0, .int 50]))], [(q_30, .inr (7, [.ref a_34, .int 0, .int 40, .int 0, .int 0]))], [(a_34, .inl (E.2 0, 60, .inl (fun _ => 0)))], [(q_41, .inr (1, [.ref a_45x, .ref a_45y, .ref a_45z, .int 0]))], [(a_45x, .inl (E.2 0, 10, .inl (fun _ => 0)))], [(a_45y, .inl (E.2 0, 10, .inl (fun _ => 0)))], [(a_45z, .inl (E.2 0, 10, .inl (fun _ => 0)))]] : List va_W).flatten := zf_subD hD [0, 1, 2, 3, 4, 5, 6, 7] (by decide) rfl
  exact W.vret hx hb hr (z_endx (w1 := (fun u : Nat → Nat => ([z_St E (z_ad h0 (u 1) (u 2) (u 3) (u 4) (u 5) (u 6) (u 7)) m_g0] : List va_W).flatten)) (z_ad h0 q_19 q_30 a_34 q_41 a_45x a_45y a_45z) hP hD hS (z_St_mk (ad := (z_ad h0 q_19 q_30 a_34 q_41 a_45x a_45y a_45z)) rfl rfl rfl rfl rfl rfl rfl rfl rfl rfl rfl rfl rfl rfl rfl rfl z_g0_60 (z_g0_10 76 (by decide)) (z_g0_10 77 (by decide)) (z_g0_10 78 (by decide)))) hS.2.2 dX5_init_51 hlocks

set_option maxHeartbeats 4000000 in
set_option maxRecDepth 100000 in
theorem c_X3_init (l : Launch) (E : zE) (h0 : Nat) (f0 : Int32) : zX l yX3_init wsX3_init ({ frames := 3, cells := 8, slots := 113, locals := 60 }) E [.ref h0] ([[(h0, .inr (2, [.null, .int f0]))]] : List va_W).flatten none (fun u : Nat → Nat => ([[(h0, .inr (2, [.ref (u 0), .int f0]))], z_St E u m_g0] : List va_W).flatten) 8 113 := by
  refine z_startx (cc := cX3_init) (maxL := 1) (ret := none) (by decide) rfl (Nat.le_of_ble_eq_true rfl) ?_
  intro Pg En s Mi below meth Cd A hx hb hr hts hown hlocks hin hml hA H hH hP hK hD hS ls hl
  have hl : lv_has ls 1 [(0, .ref h0)] := hl
  have hi_X3 : ∀ w ∈ wsX30, w ∈ wsX3_init := by decide +kernel
  have hi_X5 : ∀ w ∈ wsX50, w ∈ wsX3_init := by decide +kernel
  refine lv_aload_n hx hb dX3_init_0 rfl (lv_at hl 0 rfl) ?_
  refine W.objInit hx hb hown (hts (.methodLink RX3 1 objectInit) (by decide +kernel)) (hts (.instanceMethod objectInit) (by decide +kernel)) (hts (.code objectInit ⟨#[0xb1]⟩ 1 none) (by decide +kernel)) rfl (by rw [hml]; exact hl.1) rfl dX3_init_1 (Nat.le_of_ble_eq_true rfl) (Nat.le_of_ble_eq_true rfl) ?_
  refine W.eq (g2 := F0 Mi 4 ls []) rfl ?_
  refine lv_aload_n hx hb dX3_init_4 rfl (lv_at hl 0 rfl) ?_
  refine va_new (D := E.1) (ci := 4) (fs := [.int 0, .int 0, .int 0, .int 0, .int 0, .int 0, .int 0, .null, .null, .null]) (C := RX5) (T := TX5) (N := 10) hx hb hts hi_X5 tyX5 tyX5_ok hown (hts (.classLink RX3 7 RX5) (by decide +kernel)) (hts (.instantiable RX5 10) (by decide +kernel)) (hts (.initialized RX5) (by decide +kernel)) hK.1 hP hD hS hA rfl (fun j hj => by rcases (show j = 0 ∨ j = 1 ∨ j = 2 ∨ j = 3 ∨ j = 4 ∨ j = 5 ∨ j = 6 ∨ j = 7 ∨ j = 8 ∨ j = 9 by omega) with rfl | rfl | rfl | rfl | rfl | rfl | rfl | rfl | rfl | rfl <;> rfl) (Nat.le_of_ble_eq_true rfl) (Nat.le_of_ble_eq_true rfl) dX3_init_5 (fun q_5 H hP hD hS => ?_)
  have hP : va_P E.1 vwCl ([[(h0, .inr (2, [.null, .int f0]))], [(q_5, .inr (4, [.int 0, .int 0, .int 0, .int 0, .int 0, .int 0, .int 0, .null, .null, .null]))]] : List va_W).flatten H := hP
  have hD : va_D A ([[(h0, .inr (2, [.null, .int f0]))], [(q_5, .inr (4, [.int 0, .int 0, .int 0, .int 0, .int 0, .int 0, .int 0, .null, .null, .null]))]] : List va_W).flatten := hD
  refine W.widen (k := 1) (n := 10) (by decide) (by decide) ?_
  refine lv_dup hx hb dX3_init_8 rfl ?_
  have hPc : va_P E.1 vwCl ([[(q_5, .inr (4, [.int 0, .int 0, .int 0, .int 0, .int 0, .int 0, .int 0, .null, .null, .null]))]] : List va_W).flatten H := zf_sub hP [1] rfl
  have hDc : va_D A ([[(q_5, .inr (4, [.int 0, .int 0, .int 0, .int 0, .int 0, .int 0, .int 0, .null, .null, .null]))]] : List va_W).flatten := zf_subD hD [1] (by decide) rfl
  refine z_mutx (Sc := [[(q_5, .inr (4, [.int 0, .int 0, .int 0, .int 0, .int 0, .int 0, .int 0, .null, .null, .null]))]]) (Sr := [[(h0, .inr (2, [.null, .int f0]))]]) (va_runIN (As := []) (rest := [.ref q_5, .ref h0]) ⟨hx, hb, hml, hown, hts⟩ (c_X5_init l E q_5 H.size) (⟨va_cnB 0 hts gX3_init_X5_init_n9 rfl rfl rfl (hK.2.2.2.2.2.2.2.2.1) (hts (.initialized RX5) (by decide +kernel)) (by decide +kernel) ⟨Nat.le_of_ble_eq_true rfl, Nat.le_of_ble_eq_true rfl⟩, rfl, hts (.instanceMethod yX5_init) (by decide +kernel)⟩) ⟨zP.blind, z_pre hK hPc hDc⟩ rfl rfl hl.1 rfl (lv_room (Nat.le_of_ble_eq_true rfl)) dX3_init_9 ⟨Nat.le_of_ble_eq_true rfl, Nat.le_of_ble_eq_true rfl⟩) hP hD hS hA [1] [0] rfl rfl (by decide) (by decide) (fun a_9 H locs hP hD hS => ?_)
  have hP : va_P E.1 vwCl ([[(h0, .inr (2, [.null, .int f0]))], z_St E (z_ad q_5 (a_9 1) (a_9 2) (a_9 3) (a_9 4) (a_9 5) (a_9 6) (a_9 7)) m_g0] : List va_W).flatten H := hP
  have hD : va_D A ([[(h0, .inr (2, [.null, .int f0]))], z_St E (z_ad q_5 (a_9 1) (a_9 2) (a_9 3) (a_9 4) (a_9 5) (a_9 6) (a_9 7)) m_g0] : List va_W).flatten := hD
  refine W.widen (k := 8) (n := 113) (by decide) (by decide) ?_
  obtain ⟨ad_9, ead⟩ : ∃ z : Nat → Nat, z = z_ad q_5 (a_9 1) (a_9 2) (a_9 3) (a_9 4) (a_9 5) (a_9 6) (a_9 7) := ⟨_, rfl⟩
  have eq0 : q_5 = ad_9 0 := by rw [ead]; rfl
  subst eq0
  rw [← ead] at hP hD
  clear ead
  refine W.eq (g2 := F0 Mi 12 ls [.ref (ad_9 0), .ref h0]) rfl ?_
  refine va_putF (D := E.1) (ci := 2) (v := .ref (ad_9 0)) (ty := .object "AltimeterWatch$State") (C := RX3) (T := TX3) (N := 2) hx hb hts hi_X3 tyX3 tyX3_ok nmX3 hown hK.1 hP hD hS 0 rfl rfl 0 (by decide) (hts (.fieldLink RX3 10 "AltimeterWatch$Memory" "kept" "LAltimeterWatch$State;") (by decide +kernel)) (fun _ h9 => h9) rfl hin rfl (by decide +kernel) rfl rfl (Nat.le_of_ble_eq_true rfl) dX3_init_12 (fun H locs hP hD hS => ?_)
  have hP : va_P E.1 vwCl ([[(h0, .inr (2, [.ref (ad_9 0), .int f0]))], z_St E ad_9 m_g0] : List va_W).flatten H := hP
  have hD : va_D A ([[(h0, .inr (2, [.ref (ad_9 0), .int f0]))], z_St E ad_9 m_g0] : List va_W).flatten := hD
  have hP : va_P E.1 vwCl ([[(h0, .inr (2, [.ref (ad_9 0), .int f0]))], z_St E ad_9 m_g0] : List va_W).flatten H := zf_sub hP [0, 1] rfl
  have hD : va_D A ([[(h0, .inr (2, [.ref (ad_9 0), .int f0]))], z_St E ad_9 m_g0] : List va_W).flatten := zf_subD hD [0, 1] (by decide) rfl
  exact W.vret hx hb hr (z_endx (w1 := (fun u : Nat → Nat => ([[(h0, .inr (2, [.ref (u 0), .int f0]))], z_St E u m_g0] : List va_W).flatten)) ad_9 hP hD hS rfl) hS.2.2 dX3_init_15 hlocks

set_option maxHeartbeats 4000000 in
set_option maxRecDepth 100000 in
theorem c_X4_init (l : Launch) (E : zE) (h0 : Nat) (n0 k0 : Int32) : zX l yX4_init wsX4_init ({ frames := 3, cells := 49, slots := 684, locals := 60 }) E [.ref h0] ([[(h0, .inr (3, [.null, .int n0, .int k0]))]] : List va_W).flatten none (fun u : (Nat → Nat → Nat) × Nat => ([[(h0, .inr (3, [.ref u.2, .int n0, .int k0]))], [(u.2, .inl (E.2 2, 6, .inr (.inr (.inr (.inr (z_pl u.1 6))))))], z_SS E u.1 (fun _ => m_g0) 6] : List va_W).flatten) 49 684 := by
  refine z_startx (cc := cX4_init) (maxL := 2) (ret := none) (by decide) rfl (Nat.le_of_ble_eq_true rfl) ?_
  intro Pg En s Mi below meth Cd A hx hb hr hts hown hlocks hin hml hA H hH hP hK hD hS ls hl
  have hl : lv_has ls 2 [(0, .ref h0)] := hl
  have hi_X4 : ∀ w ∈ wsX40, w ∈ wsX4_init := by decide +kernel
  have hi_X5 : ∀ w ∈ wsX50, w ∈ wsX4_init := by decide +kernel
  refine lv_aload_n hx hb dX4_init_0 rfl (lv_at hl 0 rfl) ?_
  refine W.objInit hx hb hown (hts (.methodLink RX4 3 objectInit) (by decide +kernel)) (hts (.instanceMethod objectInit) (by decide +kernel)) (hts (.code objectInit ⟨#[0xb1]⟩ 1 none) (by decide +kernel)) rfl (by rw [hml]; exact hl.1) rfl dX4_init_1 (Nat.le_of_ble_eq_true rfl) (Nat.le_of_ble_eq_true rfl) ?_
  refine W.eq (g2 := F0 Mi 4 ls []) rfl ?_
  refine lv_aload_n hx hb dX4_init_4 rfl (lv_at hl 0 rfl) ?_
  refine lv_bipush (v := 6) hx hb dX4_init_5 (by decide) ?_
  refine va_newq (D := E.1) (C := RX5) (N' := 6) hx hb hown (hts (.classLink RX4 9 RX5) (by decide +kernel)) hK.2.2.2.2.2.2.2.2.2.2.2.2.2.2.2.2 hK.1 hP hD hS hA (by decide +kernel) (by decide +kernel) (by decide +kernel) (Nat.le_of_ble_eq_true rfl) (Nat.le_of_ble_eq_true rfl) dX4_init_7 (fun q_7 cA H hK9 hP hD hS => ?_)
  have eA := z_cy2 hK9
  subst eA
  have hP : va_P E.1 vwCl ([[(h0, .inr (3, [.null, .int n0, .int k0]))], [(q_7, .inl (E.2 2, 6, .inr (.inr (.inr (.inr (fun _ => none))))))]] : List va_W).flatten H := hP
  have hD : va_D A ([[(h0, .inr (3, [.null, .int n0, .int k0]))], [(q_7, .inl (E.2 2, 6, .inr (.inr (.inr (.inr (fun _ => none))))))]] : List va_W).flatten := hD
  refine W.widen (k := 1) (n := 6) (by decide) (by decide) ?_
  refine va_putF (D := E.1) (ci := 3) (v := .ref q_7) (ty := .array (.object RX5)) (C := RX4) (T := TX4) (N := 3) hx hb hts hi_X4 tyX4 tyX4_ok nmX4 hown hK.1 hP hD hS 0 rfl rfl 0 (by decide) (hts (.fieldLink RX4 11 "AltimeterWatch$SavedStates" "places" "[LAltimeterWatch$State;") (by decide +kernel)) (fun _ h9 => h9) rfl hin rfl (by decide +kernel) rfl rfl (Nat.le_of_ble_eq_true rfl) dX4_init_10 (fun H locs hP hD hS => ?_)
  have hP : va_P E.1 vwCl ([[(h0, .inr (3, [.ref q_7, .int n0, .int k0]))], [(q_7, .inl (E.2 2, 6, .inr (.inr (.inr (.inr (fun _ => none))))))]] : List va_W).flatten H := hP
  have hD : va_D A ([[(h0, .inr (3, [.ref q_7, .int n0, .int k0]))], [(q_7, .inl (E.2 2, 6, .inr (.inr (.inr (.inr (fun _ => none))))))]] : List va_W).flatten := hD
  refine lv_iconst (v := 0) hx hb dX4_init_13 (by decide) ?_
  refine lv_istore_n (lv' := [(1, .int 0), (0, .ref h0)]) hx hb dX4_init_14 rfl hl (by decide) rfl (fun ls hl => ?_)
  refine lv_iload_n hx hb dX4_init_15 rfl (lv_at hl 0 rfl) ?_
  refine lv_aload_n hx hb dX4_init_16 rfl (lv_at hl 1 rfl) ?_
  refine va_get (D := E.1) (ci := 3) (v := .ref q_7) (C := RX4) (T := TX4) (N := 3) hx hb hts hi_X4 hown hK.1 hP 0 rfl rfl 0 (by decide) (hts (.fieldLink RX4 11 "AltimeterWatch$SavedStates" "places" "[LAltimeterWatch$State;") (by decide +kernel)) (fun _ h9 => h9) rfl dX4_init_17 ?_
  refine va_alen (v := 6) hx hb hK.1 hP 1 2 rfl rfl rfl dX4_init_20 ?_
  refine lv_icmp_ge (tgt := 43) hx hb dX4_init_21 (by decide) (fun h9 => absurd h9 ((by decide))) (fun _ => ?_)
  refine lv_aload_n hx hb dX4_init_24 rfl (lv_at hl 1 rfl) ?_
  refine va_get (D := E.1) (ci := 3) (v := .ref q_7) (C := RX4) (T := TX4) (N := 3) hx hb hts hi_X4 hown hK.1 hP 0 rfl rfl 0 (by decide) (hts (.fieldLink RX4 11 "AltimeterWatch$SavedStates" "places" "[LAltimeterWatch$State;") (by decide +kernel)) (fun _ h9 => h9) rfl dX4_init_25 ?_
  refine lv_iload_n hx hb dX4_init_28 rfl (lv_at hl 0 rfl) ?_
  refine va_new (D := E.1) (ci := 4) (fs := [.int 0, .int 0, .int 0, .int 0, .int 0, .int 0, .int 0, .null, .null, .null]) (C := RX5) (T := TX5) (N := 10) hx hb hts hi_X5 tyX5 tyX5_ok hown (hts (.classLink RX4 9 RX5) (by decide +kernel)) (hts (.instantiable RX5 10) (by decide +kernel)) (hts (.initialized RX5) (by decide +kernel)) hK.1 hP hD hS hA rfl (fun j hj => by rcases (show j = 0 ∨ j = 1 ∨ j = 2 ∨ j = 3 ∨ j = 4 ∨ j = 5 ∨ j = 6 ∨ j = 7 ∨ j = 8 ∨ j = 9 by omega) with rfl | rfl | rfl | rfl | rfl | rfl | rfl | rfl | rfl | rfl <;> rfl) (Nat.le_of_ble_eq_true rfl) (Nat.le_of_ble_eq_true rfl) dX4_init_29 (fun q_29 H hP hD hS => ?_)
  have hP : va_P E.1 vwCl ([[(h0, .inr (3, [.ref q_7, .int n0, .int k0]))], [(q_7, .inl (E.2 2, 6, .inr (.inr (.inr (.inr (fun _ => none))))))], [(q_29, .inr (4, [.int 0, .int 0, .int 0, .int 0, .int 0, .int 0, .int 0, .null, .null, .null]))]] : List va_W).flatten H := hP
  have hD : va_D A ([[(h0, .inr (3, [.ref q_7, .int n0, .int k0]))], [(q_7, .inl (E.2 2, 6, .inr (.inr (.inr (.inr (fun _ => none))))))], [(q_29, .inr (4, [.int 0, .int 0, .int 0, .int 0, .int 0, .int 0, .int 0, .null, .null, .null]))]] : List va_W).flatten := hD
  refine W.widen (k := 2) (n := 16) (by decide) (by decide) ?_
  refine lv_dup hx hb dX4_init_32 rfl ?_
  have hPc : va_P E.1 vwCl ([[(q_29, .inr (4, [.int 0, .int 0, .int 0, .int 0, .int 0, .int 0, .int 0, .null, .null, .null]))]] : List va_W).flatten H := zf_sub hP [2] rfl
  have hDc : va_D A ([[(q_29, .inr (4, [.int 0, .int 0, .int 0, .int 0, .int 0, .int 0, .int 0, .null, .null, .null]))]] : List va_W).flatten := zf_subD hD [2] (by decide) rfl
  refine z_mutx (Sc := [[(q_29, .inr (4, [.int 0, .int 0, .int 0, .int 0, .int 0, .int 0, .int 0, .null, .null, .null]))]]) (Sr := [[(h0, .inr (3, [.ref q_7, .int n0, .int k0]))], [(q_7, .inl (E.2 2, 6, .inr (.inr (.inr (.inr (fun _ => none))))))]]) (va_runIN (As := []) (rest := [.ref q_29, .int 0, .ref q_7]) ⟨hx, hb, hml, hown, hts⟩ (c_X5_init l E q_29 H.size) (⟨va_cnB 0 hts gX4_init_X5_init_n17 rfl rfl rfl (hK.2.2.2.2.2.2.2.2.2.1) (hts (.initialized RX5) (by decide +kernel)) (by decide +kernel) ⟨Nat.le_of_ble_eq_true rfl, Nat.le_of_ble_eq_true rfl⟩, rfl, hts (.instanceMethod yX5_init) (by decide +kernel)⟩) ⟨zP.blind, z_pre hK hPc hDc⟩ rfl rfl hl.1 rfl (lv_room (Nat.le_of_ble_eq_true rfl)) dX4_init_33 ⟨Nat.le_of_ble_eq_true rfl, Nat.le_of_ble_eq_true rfl⟩) hP hD hS hA [2] [0, 1] rfl rfl (by decide) (by decide) (fun a_33 H locs hP hD hS => ?_)
  have hP : va_P E.1 vwCl ([[(h0, .inr (3, [.ref q_7, .int n0, .int k0]))], [(q_7, .inl (E.2 2, 6, .inr (.inr (.inr (.inr (fun _ => none))))))], z_St E (z_ad q_29 (a_33 1) (a_33 2) (a_33 3) (a_33 4) (a_33 5) (a_33 6) (a_33 7)) m_g0] : List va_W).flatten H := hP
  have hD : va_D A ([[(h0, .inr (3, [.ref q_7, .int n0, .int k0]))], [(q_7, .inl (E.2 2, 6, .inr (.inr (.inr (.inr (fun _ => none))))))], z_St E (z_ad q_29 (a_33 1) (a_33 2) (a_33 3) (a_33 4) (a_33 5) (a_33 6) (a_33 7)) m_g0] : List va_W).flatten := hD
  refine W.widen (k := 9) (n := 119) (by decide) (by decide) ?_
  obtain ⟨ad_33_0, ead⟩ : ∃ z : Nat → Nat, z = z_ad q_29 (a_33 1) (a_33 2) (a_33 3) (a_33 4) (a_33 5) (a_33 6) (a_33 7) := ⟨_, rfl⟩
  have eq0 : q_29 = ad_33_0 0 := by rw [ead]; rfl
  subst eq0
  rw [← ead] at hP hD
  clear ead
  refine W.eq (g2 := F0 Mi 36 ls [.ref (ad_33_0 0), .int 0, .ref q_7]) rfl ?_
  refine z_astq (k := 0) hx hb hK.1 hP hD hS 1 2 rfl rfl rfl (by decide) (by decide) dX4_init_36 (fun H locs hP hD hS => ?_)
  have hP : va_P E.1 vwCl ([[(h0, .inr (3, [.ref q_7, .int n0, .int k0]))], [(q_7, .inl (E.2 2, 6, .inr (.inr (.inr (.inr (va_up (fun _ => none) 0 (some (ad_33_0 0))))))))], z_St E ad_33_0 m_g0] : List va_W).flatten H := hP
  have hD : va_D A ([[(h0, .inr (3, [.ref q_7, .int n0, .int k0]))], [(q_7, .inl (E.2 2, 6, .inr (.inr (.inr (.inr (va_up (fun _ => none) 0 (some (ad_33_0 0))))))))], z_St E ad_33_0 m_g0] : List va_W).flatten := hD
  refine lv_iinc (v := 1) (lv' := [(1, .int 1), (0, .ref h0)]) hx hb dX4_init_37 hl (k := 0) rfl (by decide) (by decide) rfl (fun ls hl => ?_)
  refine lv_goto (tgt := 15) hx hb dX4_init_40 (by decide) ?_
  refine lv_iload_n hx hb dX4_init_15 rfl (lv_at hl 0 rfl) ?_
  refine lv_aload_n hx hb dX4_init_16 rfl (lv_at hl 1 rfl) ?_
  refine va_get (D := E.1) (ci := 3) (v := .ref q_7) (C := RX4) (T := TX4) (N := 3) hx hb hts hi_X4 hown hK.1 hP 0 rfl rfl 0 (by decide) (hts (.fieldLink RX4 11 "AltimeterWatch$SavedStates" "places" "[LAltimeterWatch$State;") (by decide +kernel)) (fun _ h9 => h9) rfl dX4_init_17 ?_
  refine va_alen (v := 6) hx hb hK.1 hP 1 2 rfl rfl rfl dX4_init_20 ?_
  refine lv_icmp_ge (tgt := 43) hx hb dX4_init_21 (by decide) (fun h9 => absurd h9 ((by decide))) (fun _ => ?_)
  refine lv_aload_n hx hb dX4_init_24 rfl (lv_at hl 1 rfl) ?_
  refine va_get (D := E.1) (ci := 3) (v := .ref q_7) (C := RX4) (T := TX4) (N := 3) hx hb hts hi_X4 hown hK.1 hP 0 rfl rfl 0 (by decide) (hts (.fieldLink RX4 11 "AltimeterWatch$SavedStates" "places" "[LAltimeterWatch$State;") (by decide +kernel)) (fun _ h9 => h9) rfl dX4_init_25 ?_
  refine lv_iload_n hx hb dX4_init_28 rfl (lv_at hl 0 rfl) ?_
  refine va_new (D := E.1) (ci := 4) (fs := [.int 0, .int 0, .int 0, .int 0, .int 0, .int 0, .int 0, .null, .null, .null]) (C := RX5) (T := TX5) (N := 10) hx hb hts hi_X5 tyX5 tyX5_ok hown (hts (.classLink RX4 9 RX5) (by decide +kernel)) (hts (.instantiable RX5 10) (by decide +kernel)) (hts (.initialized RX5) (by decide +kernel)) hK.1 hP hD hS hA rfl (fun j hj => by rcases (show j = 0 ∨ j = 1 ∨ j = 2 ∨ j = 3 ∨ j = 4 ∨ j = 5 ∨ j = 6 ∨ j = 7 ∨ j = 8 ∨ j = 9 by omega) with rfl | rfl | rfl | rfl | rfl | rfl | rfl | rfl | rfl | rfl <;> rfl) (Nat.le_of_ble_eq_true rfl) (Nat.le_of_ble_eq_true rfl) dX4_init_29 (fun q_29 H hP hD hS => ?_)
  have hP := zf_snoc hP
  have hD := zf_snocD hD
  have hP : va_P E.1 vwCl ([[(h0, .inr (3, [.ref q_7, .int n0, .int k0]))], [(q_7, .inl (E.2 2, 6, .inr (.inr (.inr (.inr (va_up (fun _ => none) 0 (some (ad_33_0 0))))))))], z_St E ad_33_0 m_g0, [(q_29, .inr (4, [.int 0, .int 0, .int 0, .int 0, .int 0, .int 0, .int 0, .null, .null, .null]))]] : List va_W).flatten H := hP
  have hD : va_D A ([[(h0, .inr (3, [.ref q_7, .int n0, .int k0]))], [(q_7, .inl (E.2 2, 6, .inr (.inr (.inr (.inr (va_up (fun _ => none) 0 (some (ad_33_0 0))))))))], z_St E ad_33_0 m_g0, [(q_29, .inr (4, [.int 0, .int 0, .int 0, .int 0, .int 0, .int 0, .int 0, .null, .null, .null]))]] : List va_W).flatten := hD
  refine W.widen (k := 10) (n := 129) (by decide) (by decide) ?_
  refine lv_dup hx hb dX4_init_32 rfl ?_
  have hPc : va_P E.1 vwCl ([[(q_29, .inr (4, [.int 0, .int 0, .int 0, .int 0, .int 0, .int 0, .int 0, .null, .null, .null]))]] : List va_W).flatten H := zf_sub hP [3] rfl
  have hDc : va_D A ([[(q_29, .inr (4, [.int 0, .int 0, .int 0, .int 0, .int 0, .int 0, .int 0, .null, .null, .null]))]] : List va_W).flatten := zf_subD hD [3] (by decide) rfl
  refine z_mutx (Sc := [[(q_29, .inr (4, [.int 0, .int 0, .int 0, .int 0, .int 0, .int 0, .int 0, .null, .null, .null]))]]) (Sr := [[(h0, .inr (3, [.ref q_7, .int n0, .int k0]))], [(q_7, .inl (E.2 2, 6, .inr (.inr (.inr (.inr (va_up (fun _ => none) 0 (some (ad_33_0 0))))))))], z_St E ad_33_0 m_g0]) (va_runIN (As := []) (rest := [.ref q_29, .int 1, .ref q_7]) ⟨hx, hb, hml, hown, hts⟩ (c_X5_init l E q_29 H.size) (⟨va_cnB 0 hts gX4_init_X5_init_n17 rfl rfl rfl (hK.2.2.2.2.2.2.2.2.2.1) (hts (.initialized RX5) (by decide +kernel)) (by decide +kernel) ⟨Nat.le_of_ble_eq_true rfl, Nat.le_of_ble_eq_true rfl⟩, rfl, hts (.instanceMethod yX5_init) (by decide +kernel)⟩) ⟨zP.blind, z_pre hK hPc hDc⟩ rfl rfl hl.1 rfl (lv_room (Nat.le_of_ble_eq_true rfl)) dX4_init_33 ⟨Nat.le_of_ble_eq_true rfl, Nat.le_of_ble_eq_true rfl⟩) hP hD hS hA [3] [0, 1, 2] rfl rfl (by decide) (by decide) (fun a_33 H locs hP hD hS => ?_)
  have hP : va_P E.1 vwCl ([[(h0, .inr (3, [.ref q_7, .int n0, .int k0]))], [(q_7, .inl (E.2 2, 6, .inr (.inr (.inr (.inr (va_up (fun _ => none) 0 (some (ad_33_0 0))))))))], z_St E ad_33_0 m_g0, z_St E (z_ad q_29 (a_33 1) (a_33 2) (a_33 3) (a_33 4) (a_33 5) (a_33 6) (a_33 7)) m_g0] : List va_W).flatten H := hP
  have hD : va_D A ([[(h0, .inr (3, [.ref q_7, .int n0, .int k0]))], [(q_7, .inl (E.2 2, 6, .inr (.inr (.inr (.inr (va_up (fun _ => none) 0 (some (ad_33_0 0))))))))], z_St E ad_33_0 m_g0, z_St E (z_ad q_29 (a_33 1) (a_33 2) (a_33 3) (a_33 4) (a_33 5) (a_33 6) (a_33 7)) m_g0] : List va_W).flatten := hD
  refine W.widen (k := 17) (n := 232) (by decide) (by decide) ?_
  obtain ⟨ad_33_1, ead⟩ : ∃ z : Nat → Nat, z = z_ad q_29 (a_33 1) (a_33 2) (a_33 3) (a_33 4) (a_33 5) (a_33 6) (a_33 7) := ⟨_, rfl⟩
  have eq0 : q_29 = ad_33_1 0 := by rw [ead]; rfl
  subst eq0
  rw [← ead] at hP hD
  clear ead
  refine W.eq (g2 := F0 Mi 36 ls [.ref (ad_33_1 0), .int 1, .ref q_7]) rfl ?_
  refine z_astq (k := 1) hx hb hK.1 hP hD hS 1 10 rfl rfl rfl (by decide) (by decide) dX4_init_36 (fun H locs hP hD hS => ?_)
  have hP : va_P E.1 vwCl ([[(h0, .inr (3, [.ref q_7, .int n0, .int k0]))], [(q_7, .inl (E.2 2, 6, .inr (.inr (.inr (.inr (va_up (va_up (fun _ => none) 0 (some (ad_33_0 0))) 1 (some (ad_33_1 0))))))))], z_St E ad_33_0 m_g0, z_St E ad_33_1 m_g0] : List va_W).flatten H := hP
  have hD : va_D A ([[(h0, .inr (3, [.ref q_7, .int n0, .int k0]))], [(q_7, .inl (E.2 2, 6, .inr (.inr (.inr (.inr (va_up (va_up (fun _ => none) 0 (some (ad_33_0 0))) 1 (some (ad_33_1 0))))))))], z_St E ad_33_0 m_g0, z_St E ad_33_1 m_g0] : List va_W).flatten := hD
  refine lv_iinc (v := 2) (lv' := [(1, .int 2), (0, .ref h0)]) hx hb dX4_init_37 hl (k := 0) rfl (by decide) (by decide) rfl (fun ls hl => ?_)
  refine lv_goto (tgt := 15) hx hb dX4_init_40 (by decide) ?_
  refine lv_iload_n hx hb dX4_init_15 rfl (lv_at hl 0 rfl) ?_
  refine lv_aload_n hx hb dX4_init_16 rfl (lv_at hl 1 rfl) ?_
  refine va_get (D := E.1) (ci := 3) (v := .ref q_7) (C := RX4) (T := TX4) (N := 3) hx hb hts hi_X4 hown hK.1 hP 0 rfl rfl 0 (by decide) (hts (.fieldLink RX4 11 "AltimeterWatch$SavedStates" "places" "[LAltimeterWatch$State;") (by decide +kernel)) (fun _ h9 => h9) rfl dX4_init_17 ?_
  refine va_alen (v := 6) hx hb hK.1 hP 1 2 rfl rfl rfl dX4_init_20 ?_
  refine lv_icmp_ge (tgt := 43) hx hb dX4_init_21 (by decide) (fun h9 => absurd h9 ((by decide))) (fun _ => ?_)
  refine lv_aload_n hx hb dX4_init_24 rfl (lv_at hl 1 rfl) ?_
  refine va_get (D := E.1) (ci := 3) (v := .ref q_7) (C := RX4) (T := TX4) (N := 3) hx hb hts hi_X4 hown hK.1 hP 0 rfl rfl 0 (by decide) (hts (.fieldLink RX4 11 "AltimeterWatch$SavedStates" "places" "[LAltimeterWatch$State;") (by decide +kernel)) (fun _ h9 => h9) rfl dX4_init_25 ?_
  refine lv_iload_n hx hb dX4_init_28 rfl (lv_at hl 0 rfl) ?_
  refine va_new (D := E.1) (ci := 4) (fs := [.int 0, .int 0, .int 0, .int 0, .int 0, .int 0, .int 0, .null, .null, .null]) (C := RX5) (T := TX5) (N := 10) hx hb hts hi_X5 tyX5 tyX5_ok hown (hts (.classLink RX4 9 RX5) (by decide +kernel)) (hts (.instantiable RX5 10) (by decide +kernel)) (hts (.initialized RX5) (by decide +kernel)) hK.1 hP hD hS hA rfl (fun j hj => by rcases (show j = 0 ∨ j = 1 ∨ j = 2 ∨ j = 3 ∨ j = 4 ∨ j = 5 ∨ j = 6 ∨ j = 7 ∨ j = 8 ∨ j = 9 by omega) with rfl | rfl | rfl | rfl | rfl | rfl | rfl | rfl | rfl | rfl <;> rfl) (Nat.le_of_ble_eq_true rfl) (Nat.le_of_ble_eq_true rfl) dX4_init_29 (fun q_29 H hP hD hS => ?_)
  have hP := zf_snoc hP
  have hD := zf_snocD hD
  have hP : va_P E.1 vwCl ([[(h0, .inr (3, [.ref q_7, .int n0, .int k0]))], [(q_7, .inl (E.2 2, 6, .inr (.inr (.inr (.inr (va_up (va_up (fun _ => none) 0 (some (ad_33_0 0))) 1 (some (ad_33_1 0))))))))], z_St E ad_33_0 m_g0, z_St E ad_33_1 m_g0, [(q_29, .inr (4, [.int 0, .int 0, .int 0, .int 0, .int 0, .int 0, .int 0, .null, .null, .null]))]] : List va_W).flatten H := hP
  have hD : va_D A ([[(h0, .inr (3, [.ref q_7, .int n0, .int k0]))], [(q_7, .inl (E.2 2, 6, .inr (.inr (.inr (.inr (va_up (va_up (fun _ => none) 0 (some (ad_33_0 0))) 1 (some (ad_33_1 0))))))))], z_St E ad_33_0 m_g0, z_St E ad_33_1 m_g0, [(q_29, .inr (4, [.int 0, .int 0, .int 0, .int 0, .int 0, .int 0, .int 0, .null, .null, .null]))]] : List va_W).flatten := hD
  refine W.widen (k := 18) (n := 242) (by decide) (by decide) ?_
  refine lv_dup hx hb dX4_init_32 rfl ?_
  have hPc : va_P E.1 vwCl ([[(q_29, .inr (4, [.int 0, .int 0, .int 0, .int 0, .int 0, .int 0, .int 0, .null, .null, .null]))]] : List va_W).flatten H := zf_sub hP [4] rfl
  have hDc : va_D A ([[(q_29, .inr (4, [.int 0, .int 0, .int 0, .int 0, .int 0, .int 0, .int 0, .null, .null, .null]))]] : List va_W).flatten := zf_subD hD [4] (by decide) rfl
  refine z_mutx (Sc := [[(q_29, .inr (4, [.int 0, .int 0, .int 0, .int 0, .int 0, .int 0, .int 0, .null, .null, .null]))]]) (Sr := [[(h0, .inr (3, [.ref q_7, .int n0, .int k0]))], [(q_7, .inl (E.2 2, 6, .inr (.inr (.inr (.inr (va_up (va_up (fun _ => none) 0 (some (ad_33_0 0))) 1 (some (ad_33_1 0))))))))], z_St E ad_33_0 m_g0, z_St E ad_33_1 m_g0]) (va_runIN (As := []) (rest := [.ref q_29, .int 2, .ref q_7]) ⟨hx, hb, hml, hown, hts⟩ (c_X5_init l E q_29 H.size) (⟨va_cnB 0 hts gX4_init_X5_init_n17 rfl rfl rfl (hK.2.2.2.2.2.2.2.2.2.1) (hts (.initialized RX5) (by decide +kernel)) (by decide +kernel) ⟨Nat.le_of_ble_eq_true rfl, Nat.le_of_ble_eq_true rfl⟩, rfl, hts (.instanceMethod yX5_init) (by decide +kernel)⟩) ⟨zP.blind, z_pre hK hPc hDc⟩ rfl rfl hl.1 rfl (lv_room (Nat.le_of_ble_eq_true rfl)) dX4_init_33 ⟨Nat.le_of_ble_eq_true rfl, Nat.le_of_ble_eq_true rfl⟩) hP hD hS hA [4] [0, 1, 2, 3] rfl rfl (by decide) (by decide) (fun a_33 H locs hP hD hS => ?_)
  have hP : va_P E.1 vwCl ([[(h0, .inr (3, [.ref q_7, .int n0, .int k0]))], [(q_7, .inl (E.2 2, 6, .inr (.inr (.inr (.inr (va_up (va_up (fun _ => none) 0 (some (ad_33_0 0))) 1 (some (ad_33_1 0))))))))], z_St E ad_33_0 m_g0, z_St E ad_33_1 m_g0, z_St E (z_ad q_29 (a_33 1) (a_33 2) (a_33 3) (a_33 4) (a_33 5) (a_33 6) (a_33 7)) m_g0] : List va_W).flatten H := hP
  have hD : va_D A ([[(h0, .inr (3, [.ref q_7, .int n0, .int k0]))], [(q_7, .inl (E.2 2, 6, .inr (.inr (.inr (.inr (va_up (va_up (fun _ => none) 0 (some (ad_33_0 0))) 1 (some (ad_33_1 0))))))))], z_St E ad_33_0 m_g0, z_St E ad_33_1 m_g0, z_St E (z_ad q_29 (a_33 1) (a_33 2) (a_33 3) (a_33 4) (a_33 5) (a_33 6) (a_33 7)) m_g0] : List va_W).flatten := hD
  refine W.widen (k := 25) (n := 345) (by decide) (by decide) ?_
  obtain ⟨ad_33_2, ead⟩ : ∃ z : Nat → Nat, z = z_ad q_29 (a_33 1) (a_33 2) (a_33 3) (a_33 4) (a_33 5) (a_33 6) (a_33 7) := ⟨_, rfl⟩
  have eq0 : q_29 = ad_33_2 0 := by rw [ead]; rfl
  subst eq0
  rw [← ead] at hP hD
  clear ead
  refine W.eq (g2 := F0 Mi 36 ls [.ref (ad_33_2 0), .int 2, .ref q_7]) rfl ?_
  refine z_astq (k := 2) hx hb hK.1 hP hD hS 1 18 rfl rfl rfl (by decide) (by decide) dX4_init_36 (fun H locs hP hD hS => ?_)
  have hP : va_P E.1 vwCl ([[(h0, .inr (3, [.ref q_7, .int n0, .int k0]))], [(q_7, .inl (E.2 2, 6, .inr (.inr (.inr (.inr (va_up (va_up (va_up (fun _ => none) 0 (some (ad_33_0 0))) 1 (some (ad_33_1 0))) 2 (some (ad_33_2 0))))))))], z_St E ad_33_0 m_g0, z_St E ad_33_1 m_g0, z_St E ad_33_2 m_g0] : List va_W).flatten H := hP
  have hD : va_D A ([[(h0, .inr (3, [.ref q_7, .int n0, .int k0]))], [(q_7, .inl (E.2 2, 6, .inr (.inr (.inr (.inr (va_up (va_up (va_up (fun _ => none) 0 (some (ad_33_0 0))) 1 (some (ad_33_1 0))) 2 (some (ad_33_2 0))))))))], z_St E ad_33_0 m_g0, z_St E ad_33_1 m_g0, z_St E ad_33_2 m_g0] : List va_W).flatten := hD
  refine lv_iinc (v := 3) (lv' := [(1, .int 3), (0, .ref h0)]) hx hb dX4_init_37 hl (k := 0) rfl (by decide) (by decide) rfl (fun ls hl => ?_)
  refine lv_goto (tgt := 15) hx hb dX4_init_40 (by decide) ?_
  refine lv_iload_n hx hb dX4_init_15 rfl (lv_at hl 0 rfl) ?_
  refine lv_aload_n hx hb dX4_init_16 rfl (lv_at hl 1 rfl) ?_
  refine va_get (D := E.1) (ci := 3) (v := .ref q_7) (C := RX4) (T := TX4) (N := 3) hx hb hts hi_X4 hown hK.1 hP 0 rfl rfl 0 (by decide) (hts (.fieldLink RX4 11 "AltimeterWatch$SavedStates" "places" "[LAltimeterWatch$State;") (by decide +kernel)) (fun _ h9 => h9) rfl dX4_init_17 ?_
  refine va_alen (v := 6) hx hb hK.1 hP 1 2 rfl rfl rfl dX4_init_20 ?_
  refine lv_icmp_ge (tgt := 43) hx hb dX4_init_21 (by decide) (fun h9 => absurd h9 ((by decide))) (fun _ => ?_)
  refine lv_aload_n hx hb dX4_init_24 rfl (lv_at hl 1 rfl) ?_
  refine va_get (D := E.1) (ci := 3) (v := .ref q_7) (C := RX4) (T := TX4) (N := 3) hx hb hts hi_X4 hown hK.1 hP 0 rfl rfl 0 (by decide) (hts (.fieldLink RX4 11 "AltimeterWatch$SavedStates" "places" "[LAltimeterWatch$State;") (by decide +kernel)) (fun _ h9 => h9) rfl dX4_init_25 ?_
  refine lv_iload_n hx hb dX4_init_28 rfl (lv_at hl 0 rfl) ?_
  refine va_new (D := E.1) (ci := 4) (fs := [.int 0, .int 0, .int 0, .int 0, .int 0, .int 0, .int 0, .null, .null, .null]) (C := RX5) (T := TX5) (N := 10) hx hb hts hi_X5 tyX5 tyX5_ok hown (hts (.classLink RX4 9 RX5) (by decide +kernel)) (hts (.instantiable RX5 10) (by decide +kernel)) (hts (.initialized RX5) (by decide +kernel)) hK.1 hP hD hS hA rfl (fun j hj => by rcases (show j = 0 ∨ j = 1 ∨ j = 2 ∨ j = 3 ∨ j = 4 ∨ j = 5 ∨ j = 6 ∨ j = 7 ∨ j = 8 ∨ j = 9 by omega) with rfl | rfl | rfl | rfl | rfl | rfl | rfl | rfl | rfl | rfl <;> rfl) (Nat.le_of_ble_eq_true rfl) (Nat.le_of_ble_eq_true rfl) dX4_init_29 (fun q_29 H hP hD hS => ?_)
  have hP := zf_snoc hP
  have hD := zf_snocD hD
  have hP : va_P E.1 vwCl ([[(h0, .inr (3, [.ref q_7, .int n0, .int k0]))], [(q_7, .inl (E.2 2, 6, .inr (.inr (.inr (.inr (va_up (va_up (va_up (fun _ => none) 0 (some (ad_33_0 0))) 1 (some (ad_33_1 0))) 2 (some (ad_33_2 0))))))))], z_St E ad_33_0 m_g0, z_St E ad_33_1 m_g0, z_St E ad_33_2 m_g0, [(q_29, .inr (4, [.int 0, .int 0, .int 0, .int 0, .int 0, .int 0, .int 0, .null, .null, .null]))]] : List va_W).flatten H := hP
  have hD : va_D A ([[(h0, .inr (3, [.ref q_7, .int n0, .int k0]))], [(q_7, .inl (E.2 2, 6, .inr (.inr (.inr (.inr (va_up (va_up (va_up (fun _ => none) 0 (some (ad_33_0 0))) 1 (some (ad_33_1 0))) 2 (some (ad_33_2 0))))))))], z_St E ad_33_0 m_g0, z_St E ad_33_1 m_g0, z_St E ad_33_2 m_g0, [(q_29, .inr (4, [.int 0, .int 0, .int 0, .int 0, .int 0, .int 0, .int 0, .null, .null, .null]))]] : List va_W).flatten := hD
  refine W.widen (k := 26) (n := 355) (by decide) (by decide) ?_
  refine lv_dup hx hb dX4_init_32 rfl ?_
  have hPc : va_P E.1 vwCl ([[(q_29, .inr (4, [.int 0, .int 0, .int 0, .int 0, .int 0, .int 0, .int 0, .null, .null, .null]))]] : List va_W).flatten H := zf_sub hP [5] rfl
  have hDc : va_D A ([[(q_29, .inr (4, [.int 0, .int 0, .int 0, .int 0, .int 0, .int 0, .int 0, .null, .null, .null]))]] : List va_W).flatten := zf_subD hD [5] (by decide) rfl
  refine z_mutx (Sc := [[(q_29, .inr (4, [.int 0, .int 0, .int 0, .int 0, .int 0, .int 0, .int 0, .null, .null, .null]))]]) (Sr := [[(h0, .inr (3, [.ref q_7, .int n0, .int k0]))], [(q_7, .inl (E.2 2, 6, .inr (.inr (.inr (.inr (va_up (va_up (va_up (fun _ => none) 0 (some (ad_33_0 0))) 1 (some (ad_33_1 0))) 2 (some (ad_33_2 0))))))))], z_St E ad_33_0 m_g0, z_St E ad_33_1 m_g0, z_St E ad_33_2 m_g0]) (va_runIN (As := []) (rest := [.ref q_29, .int 3, .ref q_7]) ⟨hx, hb, hml, hown, hts⟩ (c_X5_init l E q_29 H.size) (⟨va_cnB 0 hts gX4_init_X5_init_n17 rfl rfl rfl (hK.2.2.2.2.2.2.2.2.2.1) (hts (.initialized RX5) (by decide +kernel)) (by decide +kernel) ⟨Nat.le_of_ble_eq_true rfl, Nat.le_of_ble_eq_true rfl⟩, rfl, hts (.instanceMethod yX5_init) (by decide +kernel)⟩) ⟨zP.blind, z_pre hK hPc hDc⟩ rfl rfl hl.1 rfl (lv_room (Nat.le_of_ble_eq_true rfl)) dX4_init_33 ⟨Nat.le_of_ble_eq_true rfl, Nat.le_of_ble_eq_true rfl⟩) hP hD hS hA [5] [0, 1, 2, 3, 4] rfl rfl (by decide) (by decide) (fun a_33 H locs hP hD hS => ?_)
  have hP : va_P E.1 vwCl ([[(h0, .inr (3, [.ref q_7, .int n0, .int k0]))], [(q_7, .inl (E.2 2, 6, .inr (.inr (.inr (.inr (va_up (va_up (va_up (fun _ => none) 0 (some (ad_33_0 0))) 1 (some (ad_33_1 0))) 2 (some (ad_33_2 0))))))))], z_St E ad_33_0 m_g0, z_St E ad_33_1 m_g0, z_St E ad_33_2 m_g0, z_St E (z_ad q_29 (a_33 1) (a_33 2) (a_33 3) (a_33 4) (a_33 5) (a_33 6) (a_33 7)) m_g0] : List va_W).flatten H := hP
  have hD : va_D A ([[(h0, .inr (3, [.ref q_7, .int n0, .int k0]))], [(q_7, .inl (E.2 2, 6, .inr (.inr (.inr (.inr (va_up (va_up (va_up (fun _ => none) 0 (some (ad_33_0 0))) 1 (some (ad_33_1 0))) 2 (some (ad_33_2 0))))))))], z_St E ad_33_0 m_g0, z_St E ad_33_1 m_g0, z_St E ad_33_2 m_g0, z_St E (z_ad q_29 (a_33 1) (a_33 2) (a_33 3) (a_33 4) (a_33 5) (a_33 6) (a_33 7)) m_g0] : List va_W).flatten := hD
  refine W.widen (k := 33) (n := 458) (by decide) (by decide) ?_
  obtain ⟨ad_33_3, ead⟩ : ∃ z : Nat → Nat, z = z_ad q_29 (a_33 1) (a_33 2) (a_33 3) (a_33 4) (a_33 5) (a_33 6) (a_33 7) := ⟨_, rfl⟩
  have eq0 : q_29 = ad_33_3 0 := by rw [ead]; rfl
  subst eq0
  rw [← ead] at hP hD
  clear ead
  refine W.eq (g2 := F0 Mi 36 ls [.ref (ad_33_3 0), .int 3, .ref q_7]) rfl ?_
  refine z_astq (k := 3) hx hb hK.1 hP hD hS 1 26 rfl rfl rfl (by decide) (by decide) dX4_init_36 (fun H locs hP hD hS => ?_)
  have hP : va_P E.1 vwCl ([[(h0, .inr (3, [.ref q_7, .int n0, .int k0]))], [(q_7, .inl (E.2 2, 6, .inr (.inr (.inr (.inr (va_up (va_up (va_up (va_up (fun _ => none) 0 (some (ad_33_0 0))) 1 (some (ad_33_1 0))) 2 (some (ad_33_2 0))) 3 (some (ad_33_3 0))))))))], z_St E ad_33_0 m_g0, z_St E ad_33_1 m_g0, z_St E ad_33_2 m_g0, z_St E ad_33_3 m_g0] : List va_W).flatten H := hP
  have hD : va_D A ([[(h0, .inr (3, [.ref q_7, .int n0, .int k0]))], [(q_7, .inl (E.2 2, 6, .inr (.inr (.inr (.inr (va_up (va_up (va_up (va_up (fun _ => none) 0 (some (ad_33_0 0))) 1 (some (ad_33_1 0))) 2 (some (ad_33_2 0))) 3 (some (ad_33_3 0))))))))], z_St E ad_33_0 m_g0, z_St E ad_33_1 m_g0, z_St E ad_33_2 m_g0, z_St E ad_33_3 m_g0] : List va_W).flatten := hD
  refine lv_iinc (v := 4) (lv' := [(1, .int 4), (0, .ref h0)]) hx hb dX4_init_37 hl (k := 0) rfl (by decide) (by decide) rfl (fun ls hl => ?_)
  refine lv_goto (tgt := 15) hx hb dX4_init_40 (by decide) ?_
  refine lv_iload_n hx hb dX4_init_15 rfl (lv_at hl 0 rfl) ?_
  refine lv_aload_n hx hb dX4_init_16 rfl (lv_at hl 1 rfl) ?_
  refine va_get (D := E.1) (ci := 3) (v := .ref q_7) (C := RX4) (T := TX4) (N := 3) hx hb hts hi_X4 hown hK.1 hP 0 rfl rfl 0 (by decide) (hts (.fieldLink RX4 11 "AltimeterWatch$SavedStates" "places" "[LAltimeterWatch$State;") (by decide +kernel)) (fun _ h9 => h9) rfl dX4_init_17 ?_
  refine va_alen (v := 6) hx hb hK.1 hP 1 2 rfl rfl rfl dX4_init_20 ?_
  refine lv_icmp_ge (tgt := 43) hx hb dX4_init_21 (by decide) (fun h9 => absurd h9 ((by decide))) (fun _ => ?_)
  refine lv_aload_n hx hb dX4_init_24 rfl (lv_at hl 1 rfl) ?_
  refine va_get (D := E.1) (ci := 3) (v := .ref q_7) (C := RX4) (T := TX4) (N := 3) hx hb hts hi_X4 hown hK.1 hP 0 rfl rfl 0 (by decide) (hts (.fieldLink RX4 11 "AltimeterWatch$SavedStates" "places" "[LAltimeterWatch$State;") (by decide +kernel)) (fun _ h9 => h9) rfl dX4_init_25 ?_
  refine lv_iload_n hx hb dX4_init_28 rfl (lv_at hl 0 rfl) ?_
  refine va_new (D := E.1) (ci := 4) (fs := [.int 0, .int 0, .int 0, .int 0, .int 0, .int 0, .int 0, .null, .null, .null]) (C := RX5) (T := TX5) (N := 10) hx hb hts hi_X5 tyX5 tyX5_ok hown (hts (.classLink RX4 9 RX5) (by decide +kernel)) (hts (.instantiable RX5 10) (by decide +kernel)) (hts (.initialized RX5) (by decide +kernel)) hK.1 hP hD hS hA rfl (fun j hj => by rcases (show j = 0 ∨ j = 1 ∨ j = 2 ∨ j = 3 ∨ j = 4 ∨ j = 5 ∨ j = 6 ∨ j = 7 ∨ j = 8 ∨ j = 9 by omega) with rfl | rfl | rfl | rfl | rfl | rfl | rfl | rfl | rfl | rfl <;> rfl) (Nat.le_of_ble_eq_true rfl) (Nat.le_of_ble_eq_true rfl) dX4_init_29 (fun q_29 H hP hD hS => ?_)
  have hP := zf_snoc hP
  have hD := zf_snocD hD
  have hP : va_P E.1 vwCl ([[(h0, .inr (3, [.ref q_7, .int n0, .int k0]))], [(q_7, .inl (E.2 2, 6, .inr (.inr (.inr (.inr (va_up (va_up (va_up (va_up (fun _ => none) 0 (some (ad_33_0 0))) 1 (some (ad_33_1 0))) 2 (some (ad_33_2 0))) 3 (some (ad_33_3 0))))))))], z_St E ad_33_0 m_g0, z_St E ad_33_1 m_g0, z_St E ad_33_2 m_g0, z_St E ad_33_3 m_g0, [(q_29, .inr (4, [.int 0, .int 0, .int 0, .int 0, .int 0, .int 0, .int 0, .null, .null, .null]))]] : List va_W).flatten H := hP
  have hD : va_D A ([[(h0, .inr (3, [.ref q_7, .int n0, .int k0]))], [(q_7, .inl (E.2 2, 6, .inr (.inr (.inr (.inr (va_up (va_up (va_up (va_up (fun _ => none) 0 (some (ad_33_0 0))) 1 (some (ad_33_1 0))) 2 (some (ad_33_2 0))) 3 (some (ad_33_3 0))))))))], z_St E ad_33_0 m_g0, z_St E ad_33_1 m_g0, z_St E ad_33_2 m_g0, z_St E ad_33_3 m_g0, [(q_29, .inr (4, [.int 0, .int 0, .int 0, .int 0, .int 0, .int 0, .int 0, .null, .null, .null]))]] : List va_W).flatten := hD
  refine W.widen (k := 34) (n := 468) (by decide) (by decide) ?_
  refine lv_dup hx hb dX4_init_32 rfl ?_
  have hPc : va_P E.1 vwCl ([[(q_29, .inr (4, [.int 0, .int 0, .int 0, .int 0, .int 0, .int 0, .int 0, .null, .null, .null]))]] : List va_W).flatten H := zf_sub hP [6] rfl
  have hDc : va_D A ([[(q_29, .inr (4, [.int 0, .int 0, .int 0, .int 0, .int 0, .int 0, .int 0, .null, .null, .null]))]] : List va_W).flatten := zf_subD hD [6] (by decide) rfl
  refine z_mutx (Sc := [[(q_29, .inr (4, [.int 0, .int 0, .int 0, .int 0, .int 0, .int 0, .int 0, .null, .null, .null]))]]) (Sr := [[(h0, .inr (3, [.ref q_7, .int n0, .int k0]))], [(q_7, .inl (E.2 2, 6, .inr (.inr (.inr (.inr (va_up (va_up (va_up (va_up (fun _ => none) 0 (some (ad_33_0 0))) 1 (some (ad_33_1 0))) 2 (some (ad_33_2 0))) 3 (some (ad_33_3 0))))))))], z_St E ad_33_0 m_g0, z_St E ad_33_1 m_g0, z_St E ad_33_2 m_g0, z_St E ad_33_3 m_g0]) (va_runIN (As := []) (rest := [.ref q_29, .int 4, .ref q_7]) ⟨hx, hb, hml, hown, hts⟩ (c_X5_init l E q_29 H.size) (⟨va_cnB 0 hts gX4_init_X5_init_n17 rfl rfl rfl (hK.2.2.2.2.2.2.2.2.2.1) (hts (.initialized RX5) (by decide +kernel)) (by decide +kernel) ⟨Nat.le_of_ble_eq_true rfl, Nat.le_of_ble_eq_true rfl⟩, rfl, hts (.instanceMethod yX5_init) (by decide +kernel)⟩) ⟨zP.blind, z_pre hK hPc hDc⟩ rfl rfl hl.1 rfl (lv_room (Nat.le_of_ble_eq_true rfl)) dX4_init_33 ⟨Nat.le_of_ble_eq_true rfl, Nat.le_of_ble_eq_true rfl⟩) hP hD hS hA [6] [0, 1, 2, 3, 4, 5] rfl rfl (by decide) (by decide) (fun a_33 H locs hP hD hS => ?_)
  have hP : va_P E.1 vwCl ([[(h0, .inr (3, [.ref q_7, .int n0, .int k0]))], [(q_7, .inl (E.2 2, 6, .inr (.inr (.inr (.inr (va_up (va_up (va_up (va_up (fun _ => none) 0 (some (ad_33_0 0))) 1 (some (ad_33_1 0))) 2 (some (ad_33_2 0))) 3 (some (ad_33_3 0))))))))], z_St E ad_33_0 m_g0, z_St E ad_33_1 m_g0, z_St E ad_33_2 m_g0, z_St E ad_33_3 m_g0, z_St E (z_ad q_29 (a_33 1) (a_33 2) (a_33 3) (a_33 4) (a_33 5) (a_33 6) (a_33 7)) m_g0] : List va_W).flatten H := hP
  have hD : va_D A ([[(h0, .inr (3, [.ref q_7, .int n0, .int k0]))], [(q_7, .inl (E.2 2, 6, .inr (.inr (.inr (.inr (va_up (va_up (va_up (va_up (fun _ => none) 0 (some (ad_33_0 0))) 1 (some (ad_33_1 0))) 2 (some (ad_33_2 0))) 3 (some (ad_33_3 0))))))))], z_St E ad_33_0 m_g0, z_St E ad_33_1 m_g0, z_St E ad_33_2 m_g0, z_St E ad_33_3 m_g0, z_St E (z_ad q_29 (a_33 1) (a_33 2) (a_33 3) (a_33 4) (a_33 5) (a_33 6) (a_33 7)) m_g0] : List va_W).flatten := hD
  refine W.widen (k := 41) (n := 571) (by decide) (by decide) ?_
  obtain ⟨ad_33_4, ead⟩ : ∃ z : Nat → Nat, z = z_ad q_29 (a_33 1) (a_33 2) (a_33 3) (a_33 4) (a_33 5) (a_33 6) (a_33 7) := ⟨_, rfl⟩
  have eq0 : q_29 = ad_33_4 0 := by rw [ead]; rfl
  subst eq0
  rw [← ead] at hP hD
  clear ead
  refine W.eq (g2 := F0 Mi 36 ls [.ref (ad_33_4 0), .int 4, .ref q_7]) rfl ?_
  refine z_astq (k := 4) hx hb hK.1 hP hD hS 1 34 rfl rfl rfl (by decide) (by decide) dX4_init_36 (fun H locs hP hD hS => ?_)
  have hP : va_P E.1 vwCl ([[(h0, .inr (3, [.ref q_7, .int n0, .int k0]))], [(q_7, .inl (E.2 2, 6, .inr (.inr (.inr (.inr (va_up (va_up (va_up (va_up (va_up (fun _ => none) 0 (some (ad_33_0 0))) 1 (some (ad_33_1 0))) 2 (some (ad_33_2 0))) 3 (some (ad_33_3 0))) 4 (some (ad_33_4 0))))))))], z_St E ad_33_0 m_g0, z_St E ad_33_1 m_g0, z_St E ad_33_2 m_g0, z_St E ad_33_3 m_g0, z_St E ad_33_4 m_g0] : List va_W).flatten H := hP
  have hD : va_D A ([[(h0, .inr (3, [.ref q_7, .int n0, .int k0]))], [(q_7, .inl (E.2 2, 6, .inr (.inr (.inr (.inr (va_up (va_up (va_up (va_up (va_up (fun _ => none) 0 (some (ad_33_0 0))) 1 (some (ad_33_1 0))) 2 (some (ad_33_2 0))) 3 (some (ad_33_3 0))) 4 (some (ad_33_4 0))))))))], z_St E ad_33_0 m_g0, z_St E ad_33_1 m_g0, z_St E ad_33_2 m_g0, z_St E ad_33_3 m_g0, z_St E ad_33_4 m_g0] : List va_W).flatten := hD
  refine lv_iinc (v := 5) (lv' := [(1, .int 5), (0, .ref h0)]) hx hb dX4_init_37 hl (k := 0) rfl (by decide) (by decide) rfl (fun ls hl => ?_)
  refine lv_goto (tgt := 15) hx hb dX4_init_40 (by decide) ?_
  refine lv_iload_n hx hb dX4_init_15 rfl (lv_at hl 0 rfl) ?_
  refine lv_aload_n hx hb dX4_init_16 rfl (lv_at hl 1 rfl) ?_
  refine va_get (D := E.1) (ci := 3) (v := .ref q_7) (C := RX4) (T := TX4) (N := 3) hx hb hts hi_X4 hown hK.1 hP 0 rfl rfl 0 (by decide) (hts (.fieldLink RX4 11 "AltimeterWatch$SavedStates" "places" "[LAltimeterWatch$State;") (by decide +kernel)) (fun _ h9 => h9) rfl dX4_init_17 ?_
  refine va_alen (v := 6) hx hb hK.1 hP 1 2 rfl rfl rfl dX4_init_20 ?_
  refine lv_icmp_ge (tgt := 43) hx hb dX4_init_21 (by decide) (fun h9 => absurd h9 ((by decide))) (fun _ => ?_)
  refine lv_aload_n hx hb dX4_init_24 rfl (lv_at hl 1 rfl) ?_
  refine va_get (D := E.1) (ci := 3) (v := .ref q_7) (C := RX4) (T := TX4) (N := 3) hx hb hts hi_X4 hown hK.1 hP 0 rfl rfl 0 (by decide) (hts (.fieldLink RX4 11 "AltimeterWatch$SavedStates" "places" "[LAltimeterWatch$State;") (by decide +kernel)) (fun _ h9 => h9) rfl dX4_init_25 ?_
  refine lv_iload_n hx hb dX4_init_28 rfl (lv_at hl 0 rfl) ?_
  refine va_new (D := E.1) (ci := 4) (fs := [.int 0, .int 0, .int 0, .int 0, .int 0, .int 0, .int 0, .null, .null, .null]) (C := RX5) (T := TX5) (N := 10) hx hb hts hi_X5 tyX5 tyX5_ok hown (hts (.classLink RX4 9 RX5) (by decide +kernel)) (hts (.instantiable RX5 10) (by decide +kernel)) (hts (.initialized RX5) (by decide +kernel)) hK.1 hP hD hS hA rfl (fun j hj => by rcases (show j = 0 ∨ j = 1 ∨ j = 2 ∨ j = 3 ∨ j = 4 ∨ j = 5 ∨ j = 6 ∨ j = 7 ∨ j = 8 ∨ j = 9 by omega) with rfl | rfl | rfl | rfl | rfl | rfl | rfl | rfl | rfl | rfl <;> rfl) (Nat.le_of_ble_eq_true rfl) (Nat.le_of_ble_eq_true rfl) dX4_init_29 (fun q_29 H hP hD hS => ?_)
  have hP := zf_snoc hP
  have hD := zf_snocD hD
  have hP : va_P E.1 vwCl ([[(h0, .inr (3, [.ref q_7, .int n0, .int k0]))], [(q_7, .inl (E.2 2, 6, .inr (.inr (.inr (.inr (va_up (va_up (va_up (va_up (va_up (fun _ => none) 0 (some (ad_33_0 0))) 1 (some (ad_33_1 0))) 2 (some (ad_33_2 0))) 3 (some (ad_33_3 0))) 4 (some (ad_33_4 0))))))))], z_St E ad_33_0 m_g0, z_St E ad_33_1 m_g0, z_St E ad_33_2 m_g0, z_St E ad_33_3 m_g0, z_St E ad_33_4 m_g0, [(q_29, .inr (4, [.int 0, .int 0, .int 0, .int 0, .int 0, .int 0, .int 0, .null, .null, .null]))]] : List va_W).flatten H := hP
  have hD : va_D A ([[(h0, .inr (3, [.ref q_7, .int n0, .int k0]))], [(q_7, .inl (E.2 2, 6, .inr (.inr (.inr (.inr (va_up (va_up (va_up (va_up (va_up (fun _ => none) 0 (some (ad_33_0 0))) 1 (some (ad_33_1 0))) 2 (some (ad_33_2 0))) 3 (some (ad_33_3 0))) 4 (some (ad_33_4 0))))))))], z_St E ad_33_0 m_g0, z_St E ad_33_1 m_g0, z_St E ad_33_2 m_g0, z_St E ad_33_3 m_g0, z_St E ad_33_4 m_g0, [(q_29, .inr (4, [.int 0, .int 0, .int 0, .int 0, .int 0, .int 0, .int 0, .null, .null, .null]))]] : List va_W).flatten := hD
  refine W.widen (k := 42) (n := 581) (by decide) (by decide) ?_
  refine lv_dup hx hb dX4_init_32 rfl ?_
  have hPc : va_P E.1 vwCl ([[(q_29, .inr (4, [.int 0, .int 0, .int 0, .int 0, .int 0, .int 0, .int 0, .null, .null, .null]))]] : List va_W).flatten H := zf_sub hP [7] rfl
  have hDc : va_D A ([[(q_29, .inr (4, [.int 0, .int 0, .int 0, .int 0, .int 0, .int 0, .int 0, .null, .null, .null]))]] : List va_W).flatten := zf_subD hD [7] (by decide) rfl
  refine z_mutx (Sc := [[(q_29, .inr (4, [.int 0, .int 0, .int 0, .int 0, .int 0, .int 0, .int 0, .null, .null, .null]))]]) (Sr := [[(h0, .inr (3, [.ref q_7, .int n0, .int k0]))], [(q_7, .inl (E.2 2, 6, .inr (.inr (.inr (.inr (va_up (va_up (va_up (va_up (va_up (fun _ => none) 0 (some (ad_33_0 0))) 1 (some (ad_33_1 0))) 2 (some (ad_33_2 0))) 3 (some (ad_33_3 0))) 4 (some (ad_33_4 0))))))))], z_St E ad_33_0 m_g0, z_St E ad_33_1 m_g0, z_St E ad_33_2 m_g0, z_St E ad_33_3 m_g0, z_St E ad_33_4 m_g0]) (va_runIN (As := []) (rest := [.ref q_29, .int 5, .ref q_7]) ⟨hx, hb, hml, hown, hts⟩ (c_X5_init l E q_29 H.size) (⟨va_cnB 0 hts gX4_init_X5_init_n17 rfl rfl rfl (hK.2.2.2.2.2.2.2.2.2.1) (hts (.initialized RX5) (by decide +kernel)) (by decide +kernel) ⟨Nat.le_of_ble_eq_true rfl, Nat.le_of_ble_eq_true rfl⟩, rfl, hts (.instanceMethod yX5_init) (by decide +kernel)⟩) ⟨zP.blind, z_pre hK hPc hDc⟩ rfl rfl hl.1 rfl (lv_room (Nat.le_of_ble_eq_true rfl)) dX4_init_33 ⟨Nat.le_of_ble_eq_true rfl, Nat.le_of_ble_eq_true rfl⟩) hP hD hS hA [7] [0, 1, 2, 3, 4, 5, 6] rfl rfl (by decide) (by decide) (fun a_33 H locs hP hD hS => ?_)
  have hP : va_P E.1 vwCl ([[(h0, .inr (3, [.ref q_7, .int n0, .int k0]))], [(q_7, .inl (E.2 2, 6, .inr (.inr (.inr (.inr (va_up (va_up (va_up (va_up (va_up (fun _ => none) 0 (some (ad_33_0 0))) 1 (some (ad_33_1 0))) 2 (some (ad_33_2 0))) 3 (some (ad_33_3 0))) 4 (some (ad_33_4 0))))))))], z_St E ad_33_0 m_g0, z_St E ad_33_1 m_g0, z_St E ad_33_2 m_g0, z_St E ad_33_3 m_g0, z_St E ad_33_4 m_g0, z_St E (z_ad q_29 (a_33 1) (a_33 2) (a_33 3) (a_33 4) (a_33 5) (a_33 6) (a_33 7)) m_g0] : List va_W).flatten H := hP
  have hD : va_D A ([[(h0, .inr (3, [.ref q_7, .int n0, .int k0]))], [(q_7, .inl (E.2 2, 6, .inr (.inr (.inr (.inr (va_up (va_up (va_up (va_up (va_up (fun _ => none) 0 (some (ad_33_0 0))) 1 (some (ad_33_1 0))) 2 (some (ad_33_2 0))) 3 (some (ad_33_3 0))) 4 (some (ad_33_4 0))))))))], z_St E ad_33_0 m_g0, z_St E ad_33_1 m_g0, z_St E ad_33_2 m_g0, z_St E ad_33_3 m_g0, z_St E ad_33_4 m_g0, z_St E (z_ad q_29 (a_33 1) (a_33 2) (a_33 3) (a_33 4) (a_33 5) (a_33 6) (a_33 7)) m_g0] : List va_W).flatten := hD
  refine W.widen (k := 49) (n := 684) (by decide) (by decide) ?_
  obtain ⟨ad_33_5, ead⟩ : ∃ z : Nat → Nat, z = z_ad q_29 (a_33 1) (a_33 2) (a_33 3) (a_33 4) (a_33 5) (a_33 6) (a_33 7) := ⟨_, rfl⟩
  have eq0 : q_29 = ad_33_5 0 := by rw [ead]; rfl
  subst eq0
  rw [← ead] at hP hD
  clear ead
  refine W.eq (g2 := F0 Mi 36 ls [.ref (ad_33_5 0), .int 5, .ref q_7]) rfl ?_
  refine z_astq (k := 5) hx hb hK.1 hP hD hS 1 42 rfl rfl rfl (by decide) (by decide) dX4_init_36 (fun H locs hP hD hS => ?_)
  have hP : va_P E.1 vwCl ([[(h0, .inr (3, [.ref q_7, .int n0, .int k0]))], [(q_7, .inl (E.2 2, 6, .inr (.inr (.inr (.inr (va_up (va_up (va_up (va_up (va_up (va_up (fun _ => none) 0 (some (ad_33_0 0))) 1 (some (ad_33_1 0))) 2 (some (ad_33_2 0))) 3 (some (ad_33_3 0))) 4 (some (ad_33_4 0))) 5 (some (ad_33_5 0))))))))], z_St E ad_33_0 m_g0, z_St E ad_33_1 m_g0, z_St E ad_33_2 m_g0, z_St E ad_33_3 m_g0, z_St E ad_33_4 m_g0, z_St E ad_33_5 m_g0] : List va_W).flatten H := hP
  have hD : va_D A ([[(h0, .inr (3, [.ref q_7, .int n0, .int k0]))], [(q_7, .inl (E.2 2, 6, .inr (.inr (.inr (.inr (va_up (va_up (va_up (va_up (va_up (va_up (fun _ => none) 0 (some (ad_33_0 0))) 1 (some (ad_33_1 0))) 2 (some (ad_33_2 0))) 3 (some (ad_33_3 0))) 4 (some (ad_33_4 0))) 5 (some (ad_33_5 0))))))))], z_St E ad_33_0 m_g0, z_St E ad_33_1 m_g0, z_St E ad_33_2 m_g0, z_St E ad_33_3 m_g0, z_St E ad_33_4 m_g0, z_St E ad_33_5 m_g0] : List va_W).flatten := hD
  refine lv_iinc (v := 6) (lv' := [(1, .int 6), (0, .ref h0)]) hx hb dX4_init_37 hl (k := 0) rfl (by decide) (by decide) rfl (fun ls hl => ?_)
  refine lv_goto (tgt := 15) hx hb dX4_init_40 (by decide) ?_
  refine lv_iload_n hx hb dX4_init_15 rfl (lv_at hl 0 rfl) ?_
  refine lv_aload_n hx hb dX4_init_16 rfl (lv_at hl 1 rfl) ?_
  refine va_get (D := E.1) (ci := 3) (v := .ref q_7) (C := RX4) (T := TX4) (N := 3) hx hb hts hi_X4 hown hK.1 hP 0 rfl rfl 0 (by decide) (hts (.fieldLink RX4 11 "AltimeterWatch$SavedStates" "places" "[LAltimeterWatch$State;") (by decide +kernel)) (fun _ h9 => h9) rfl dX4_init_17 ?_
  refine va_alen (v := 6) hx hb hK.1 hP 1 2 rfl rfl rfl dX4_init_20 ?_
  refine lv_icmp_ge (tgt := 43) hx hb dX4_init_21 (by decide) (fun _ => ?_) (fun h9 => absurd ((by decide)) h9)
  have hP : va_P E.1 vwCl ([[(h0, .inr (3, [.ref q_7, .int n0, .int k0]))], [(q_7, .inl (E.2 2, 6, .inr (.inr (.inr (.inr (va_up (va_up (va_up (va_up (va_up (va_up (fun _ => none) 0 (some (ad_33_0 0))) 1 (some (ad_33_1 0))) 2 (some (ad_33_2 0))) 3 (some (ad_33_3 0))) 4 (some (ad_33_4 0))) 5 (some (ad_33_5 0))))))))], z_St E ad_33_0 m_g0, z_St E ad_33_1 m_g0, z_St E ad_33_2 m_g0, z_St E ad_33_3 m_g0, z_St E ad_33_4 m_g0, z_St E ad_33_5 m_g0] : List va_W).flatten H := zf_sub hP [0, 1, 2, 3, 4, 5, 6, 7] rfl
  have hD : va_D A ([[(h0, .inr (3, [.ref q_7, .int n0, .int k0]))], [(q_7, .inl (E.2 2, 6, .inr (.inr (.inr (.inr (va_up (va_up (va_up (va_up (va_up (va_up (fun _ => none) 0 (some (ad_33_0 0))) 1 (some (ad_33_1 0))) 2 (some (ad_33_2 0))) 3 (some (ad_33_3 0))) 4 (some (ad_33_4 0))) 5 (some (ad_33_5 0))))))))], z_St E ad_33_0 m_g0, z_St E ad_33_1 m_g0, z_St E ad_33_2 m_g0, z_St E ad_33_3 m_g0, z_St E ad_33_4 m_g0, z_St E ad_33_5 m_g0] : List va_W).flatten := zf_subD hD [0, 1, 2, 3, 4, 5, 6, 7] (by decide) rfl
  exact W.vret hx hb hr (z_endx (w1 := (fun u : (Nat → Nat → Nat) × Nat => ([[(h0, .inr (3, [.ref u.2, .int n0, .int k0]))], [(u.2, .inl (E.2 2, 6, .inr (.inr (.inr (.inr (z_pl u.1 6))))))], z_SS E u.1 (fun _ => m_g0) 6] : List va_W).flatten)) (z_six ad_33_0 ad_33_1 ad_33_2 ad_33_3 ad_33_4 ad_33_5, q_7) hP hD hS (by rw [z_pl_six]; rfl)) hS.2.2 dX4_init_43 hlocks

set_option maxHeartbeats 4000000 in
set_option maxRecDepth 100000 in
theorem c_X4_placeOf (l : Launch) (E : zE) (h0 q0 k : Nat) (n0 k0 x : Int32) (ad : Nat → Nat → Nat) (hx1 : x = nI k) (hk : k < 6) : zR l yX4_placeOf wsX4_placeOf ({ frames := 0, cells := 0, slots := 0, locals := 0 }) E [.ref h0, .int x] ([[(h0, .inr (3, [.ref q0, .int n0, .int k0]))], [(q0, .inl (E.2 2, 6, .inr (.inr (.inr (.inr (z_pl ad 6))))))]] : List va_W).flatten (some (.ref ((ad k) 0))) := by
  refine z_startr (cc := cX4_placeOf) (maxL := 2) (ret := (some (.object "AltimeterWatch$State"))) (by decide) rfl (Nat.le_of_ble_eq_true rfl) ?_
  intro Pg En s Mi below meth Cd hx hb hr hts hown hlocks hml hP hK ls hl
  have hl : lv_has ls 2 [(0, .ref h0), (1, .int x)] := hl
  have hi_X4 : ∀ w ∈ wsX40, w ∈ wsX4_placeOf := by decide +kernel
  refine lv_iload_n hx hb dX4_placeOf_0 rfl (lv_at hl 1 rfl) ?_
  refine lv_if_lt (tgt := 22) hx hb dX4_placeOf_1 (by decide) (fun h9 => absurd h9 ((by rw [hx1]; exact nI_pos (by omega)))) (fun _ => ?_)
  refine lv_iload_n hx hb dX4_placeOf_4 rfl (lv_at hl 1 rfl) ?_
  refine lv_aload_n hx hb dX4_placeOf_5 rfl (lv_at hl 0 rfl) ?_
  refine va_get (D := E.1) (ci := 3) (v := .ref q0) (C := RX4) (T := TX4) (N := 3) hx hb hts hi_X4 hown hK.1 hP 0 rfl rfl 0 (by decide) (hts (.fieldLink RX4 11 "AltimeterWatch$SavedStates" "places" "[LAltimeterWatch$State;") (by decide +kernel)) (fun _ h9 => h9) rfl dX4_placeOf_6 ?_
  refine va_alen (v := 6) hx hb hK.1 hP 1 2 rfl rfl rfl dX4_placeOf_9 ?_
  refine lv_icmp_ge (tgt := 22) hx hb dX4_placeOf_10 (by decide) (fun h9 => absurd h9 ((by rw [hx1]; exact nI_ge (b := 6) hk (by decide)))) (fun _ => ?_)
  refine lv_aload_n hx hb dX4_placeOf_13 rfl (lv_at hl 0 rfl) ?_
  refine va_get (D := E.1) (ci := 3) (v := .ref q0) (C := RX4) (T := TX4) (N := 3) hx hb hts hi_X4 hown hK.1 hP 0 rfl rfl 0 (by decide) (hts (.fieldLink RX4 11 "AltimeterWatch$SavedStates" "places" "[LAltimeterWatch$State;") (by decide +kernel)) (fun _ h9 => h9) rfl dX4_placeOf_14 ?_
  refine lv_iload_n hx hb dX4_placeOf_17 rfl (lv_at hl 1 rfl) ?_
  refine z_aldq (k := k) hx hb hK.1 hP 1 rfl hx1 (by omega) (by decide) dX4_placeOf_18 ?_
  refine z_topv (y := .ref ((ad k) 0)) (by rw [z_pl_lt hk]; rfl) ?_
  refine lv_goto (tgt := 23) hx hb dX4_placeOf_19 (by decide) ?_
  exact W.aret (v := .ref ((ad k) 0)) hx hb hr (Or.inl ⟨_, rfl⟩) (Or.inr ⟨_, rfl⟩) z_endR (fun _ h => by cases h) dX4_placeOf_23 hlocks

theorem k_min6 {n : Nat} (h : n ≤ 6) : (if (6 : Int32) < nI n + 1 then 6 else nI n + 1) = nI (if n < 6 then n + 1 else 6) := by
  rw [show nI n + 1 = nI (n + 1) from nI_1 n]
  by_cases q : n < 6
  · have c : ¬ (6 : Int32) < nI (n + 1) := nI_nlt (a := 6) (b := n + 1) (by omega) (by omega)
    rw [if_neg c, if_pos q]
  · have c : (6 : Int32) < nI (n + 1) := nI_lt (a := 6) (b := n + 1) (by omega) (by omega)
    rw [if_pos c, if_neg q]
    rfl

set_option maxHeartbeats 4000000 in
set_option maxRecDepth 100000 in
theorem c_X4_save (l : Launch) (E : zE) (h0 q0 k m : Nat) (na : Nat → Nat) (nx ct : Int32) (ad : Nat → Nat → Nat) (v : Nat → Nat → Int32) (g : Nat → Int32) (hnx : nx = nI k) (hk : k < 6) (hct : ct = nI m) (hm : m ≤ 6) (hb2 : g 2 = 0 ∨ g 2 = 1) (hb13 : g 13 = 0 ∨ g 13 = 1) : zM l yX4_save wsX4_save ({ frames := 4, cells := 0, slots := 0, locals := 89 }) E [.ref h0, .ref (na 0)] ([[(h0, .inr (3, [.ref q0, .int nx, .int ct]))], [(q0, .inl (E.2 2, 6, .inr (.inr (.inr (.inr (z_pl ad 6))))))], z_St E na g, z_SS E ad v 6] : List va_W).flatten none ([[(h0, .inr (3, [.ref q0, .int (nI ((k + 1) % 6)), .int (nI (if m < 6 then m + 1 else 6))]))], [(q0, .inl (E.2 2, 6, .inr (.inr (.inr (.inr (z_pl ad 6))))))], z_St E na g, z_SS E ad (va_up v k g) 6] : List va_W).flatten 0 0 := by
  refine z_start (cc := cX4_save) (maxL := 3) (ret := none) (by decide) rfl (Nat.le_of_ble_eq_true rfl) ?_
  intro Pg En s Mi below meth Cd A hx hb hr hts hown hlocks hin hml hA H hH hP hK hD hS ls hl
  have hl : lv_has ls 3 [(0, .ref h0), (1, .ref (na 0))] := hl
  have hi_X4 : ∀ w ∈ wsX40, w ∈ wsX4_save := by decide +kernel
  refine lv_aload_n hx hb dX4_save_0 rfl (lv_at hl 0 rfl) ?_
  refine lv_aload_n hx hb dX4_save_1 rfl (lv_at hl 0 rfl) ?_
  refine va_get (D := E.1) (ci := 3) (v := .int nx) (C := RX4) (T := TX4) (N := 3) hx hb hts hi_X4 hown hK.1 hP 0 rfl rfl 1 (by decide) (hts (.fieldLink RX4 18 "AltimeterWatch$SavedStates" "next" "I") (by decide +kernel)) (fun _ h9 => h9) rfl dX4_save_2 ?_
  have hPc : va_P E.1 vwCl ([[(h0, .inr (3, [.ref q0, .int nx, .int ct]))], [(q0, .inl (E.2 2, 6, .inr (.inr (.inr (.inr (z_pl ad 6))))))]] : List va_W).flatten H := zf_sub hP [0, 1] rfl
  refine z_rdv (va_runV (As := [.int nx]) (rest := []) ⟨hx, hb, hml, hown, hts⟩ (c_X4_placeOf l E h0 q0 k nx ct nx ad hnx hk) (cwV 1 hts gX4_save_X4_placeOf rfl rfl rfl (by decide +kernel) ⟨Nat.le_of_ble_eq_true rfl, Nat.le_of_ble_eq_true rfl⟩) ⟨zPr.blind, va_recv hK.1 hPc (ci := 3) (q0 := 0) rfl rfl, z_prer hK hPc⟩ rfl rfl hl.1 rfl (lv_room (Nat.le_of_ble_eq_true rfl)) dX4_save_5 ⟨Nat.le_of_ble_eq_true rfl, Nat.le_of_ble_eq_true rfl⟩) ?_
  refine W.eq (g2 := F0 Mi 8 ls [.ref ((ad k) 0)]) rfl ?_
  refine lv_astore_n (lv' := [(2, .ref ((ad k) 0)), (0, .ref h0), (1, .ref (na 0))]) hx hb dX4_save_8 rfl hl (by decide) rfl (fun ls hl => ?_)
  refine lv_aload_n hx hb dX4_save_9 rfl (lv_at hl 0 rfl) ?_
  refine lv_ifnull hx hb dX4_save_10 ?_
  have hP := zp_P (z_out (E := E) (ad := ad) (v := v) (S := [[(h0, .inr (3, [.ref q0, .int nx, .int ct]))], [(q0, .inl (E.2 2, 6, .inr (.inr (.inr (.inr (z_pl ad 6))))))], z_St E na g]) hk) hP
  have hD := zp_D (z_out (E := E) (ad := ad) (v := v) (S := [[(h0, .inr (3, [.ref q0, .int nx, .int ct]))], [(q0, .inl (E.2 2, 6, .inr (.inr (.inr (.inr (z_pl ad 6))))))], z_St E na g]) hk) hD
  have hP : va_P E.1 vwCl ([[(h0, .inr (3, [.ref q0, .int nx, .int ct]))], [(q0, .inl (E.2 2, 6, .inr (.inr (.inr (.inr (z_pl ad 6))))))], z_St E na g, z_St E (ad k) (v k), z_SX E ad v 6 k] : List va_W).flatten H := hP
  have hD : va_D A ([[(h0, .inr (3, [.ref q0, .int nx, .int ct]))], [(q0, .inl (E.2 2, 6, .inr (.inr (.inr (.inr (z_pl ad 6))))))], z_St E na g, z_St E (ad k) (v k), z_SX E ad v 6 k] : List va_W).flatten := hD
  refine lv_aload_n hx hb dX4_save_13 rfl (lv_at hl 0 rfl) ?_
  refine lv_aload_n hx hb dX4_save_14 rfl (lv_at hl 2 rfl) ?_
  have hPc : va_P E.1 vwCl ([z_St E (ad k) (v k), z_St E na g] : List va_W).flatten H := zf_sub hP [3, 2] rfl
  have hDc : va_D A ([z_St E (ad k) (v k), z_St E na g] : List va_W).flatten := zf_subD hD [3, 2] (by decide) rfl
  refine z_mut (Sc := [z_St E (ad k) (v k), z_St E na g]) (Sr := [[(h0, .inr (3, [.ref q0, .int nx, .int ct]))], [(q0, .inl (E.2 2, 6, .inr (.inr (.inr (.inr (z_pl ad 6))))))], z_SX E ad v 6 k]) (W1 := [z_St E (ad k) g, z_St E na g]) (va_runV (As := [.ref (na 0)]) (rest := []) ⟨hx, hb, hml, hown, hts⟩ (c_X5_copyFrom l E (ad k) na (v k) g hb2 hb13 H.size) (cwV 1 hts gX4_save_X5_copyFrom rfl rfl rfl (by decide +kernel) ⟨Nat.le_of_ble_eq_true rfl, Nat.le_of_ble_eq_true rfl⟩) ⟨zP.blind, va_recv hK.1 hPc (ci := 4) (q0 := 0) rfl rfl, z_pre hK hPc hDc⟩ rfl rfl hl.1 rfl (lv_room (Nat.le_of_ble_eq_true rfl)) dX4_save_15 ⟨Nat.le_of_ble_eq_true rfl, Nat.le_of_ble_eq_true rfl⟩) hP hD hS hA [3, 2] [0, 1, 4] rfl rfl (by decide) (by decide) (fun H locs hP hD hS => ?_)
  have hP : va_P E.1 vwCl ([[(h0, .inr (3, [.ref q0, .int nx, .int ct]))], [(q0, .inl (E.2 2, 6, .inr (.inr (.inr (.inr (z_pl ad 6))))))], z_SX E ad v 6 k, z_St E (ad k) g, z_St E na g] : List va_W).flatten H := hP
  have hD : va_D A ([[(h0, .inr (3, [.ref q0, .int nx, .int ct]))], [(q0, .inl (E.2 2, 6, .inr (.inr (.inr (.inr (z_pl ad 6))))))], z_SX E ad v 6 k, z_St E (ad k) g, z_St E na g] : List va_W).flatten := hD
  refine W.eq (g2 := F0 Mi 18 ls []) rfl ?_
  have hP : va_P E.1 vwCl ([[(h0, .inr (3, [.ref q0, .int nx, .int ct]))], [(q0, .inl (E.2 2, 6, .inr (.inr (.inr (.inr (z_pl ad 6))))))], z_St E na g, z_St E (ad k) g, z_SX E ad v 6 k] : List va_W).flatten H := zf_sub hP [0, 1, 4, 3, 2] rfl
  have hD : va_D A ([[(h0, .inr (3, [.ref q0, .int nx, .int ct]))], [(q0, .inl (E.2 2, 6, .inr (.inr (.inr (.inr (z_pl ad 6))))))], z_St E na g, z_St E (ad k) g, z_SX E ad v 6 k] : List va_W).flatten := zf_subD hD [0, 1, 4, 3, 2] (by decide) rfl
  have hP := zp_P (z_in (E := E) (ad := ad) (v := v) (g := g) (S := [[(h0, .inr (3, [.ref q0, .int nx, .int ct]))], [(q0, .inl (E.2 2, 6, .inr (.inr (.inr (.inr (z_pl ad 6))))))], z_St E na g]) hk) hP
  have hD := zp_D (z_in (E := E) (ad := ad) (v := v) (g := g) (S := [[(h0, .inr (3, [.ref q0, .int nx, .int ct]))], [(q0, .inl (E.2 2, 6, .inr (.inr (.inr (.inr (z_pl ad 6))))))], z_St E na g]) hk) hD
  have hP : va_P E.1 vwCl ([[(h0, .inr (3, [.ref q0, .int nx, .int ct]))], [(q0, .inl (E.2 2, 6, .inr (.inr (.inr (.inr (z_pl ad 6))))))], z_St E na g, z_SS E ad (va_up v k g) 6] : List va_W).flatten H := hP
  have hD : va_D A ([[(h0, .inr (3, [.ref q0, .int nx, .int ct]))], [(q0, .inl (E.2 2, 6, .inr (.inr (.inr (.inr (z_pl ad 6))))))], z_St E na g, z_SS E ad (va_up v k g) 6] : List va_W).flatten := hD
  refine lv_aload_n hx hb dX4_save_18 rfl (lv_at hl 1 rfl) ?_
  refine lv_aload_n hx hb dX4_save_19 rfl (lv_at hl 1 rfl) ?_
  refine va_get (D := E.1) (ci := 3) (v := .int nx) (C := RX4) (T := TX4) (N := 3) hx hb hts hi_X4 hown hK.1 hP 0 rfl rfl 1 (by decide) (hts (.fieldLink RX4 18 "AltimeterWatch$SavedStates" "next" "I") (by decide +kernel)) (fun _ h9 => h9) rfl dX4_save_20 ?_
  refine lv_iconst (v := 1) hx hb dX4_save_23 (by decide) ?_
  refine lv_iadd hx hb dX4_save_24 ?_
  refine lv_bipush (v := 6) hx hb dX4_save_25 (by decide) ?_
  refine lv_irem hx hb dX4_save_27 (by decide) ?_
  refine z_topi (y := nI ((k + 1) % 6)) (by rw [hnx, show nI k + 1 = nI (k + 1) from nI_1 k]; exact pk_rem (a := k + 1) (d := 6) (by omega) (by decide) (by decide)) ?_
  refine va_put (D := E.1) (ci := 3) (v := .int (nI ((k + 1) % 6))) (ty := .int) (C := RX4) (T := TX4) (N := 3) hx hb hts hi_X4 tyX4 tyX4_ok nmX4 hown hK.1 hP hD hS 0 rfl rfl 1 (by decide) (hts (.fieldLink RX4 18 "AltimeterWatch$SavedStates" "next" "I") (by decide +kernel)) (fun _ h9 => h9) rfl (by decide +kernel) rfl rfl (Nat.le_of_ble_eq_true rfl) dX4_save_28 (fun H locs hP hD hS => ?_)
  have hP : va_P E.1 vwCl ([[(h0, .inr (3, [.ref q0, .int (nI ((k + 1) % 6)), .int ct]))], [(q0, .inl (E.2 2, 6, .inr (.inr (.inr (.inr (z_pl ad 6))))))], z_St E na g, z_SS E ad (va_up v k g) 6] : List va_W).flatten H := hP
  have hD : va_D A ([[(h0, .inr (3, [.ref q0, .int (nI ((k + 1) % 6)), .int ct]))], [(q0, .inl (E.2 2, 6, .inr (.inr (.inr (.inr (z_pl ad 6))))))], z_St E na g, z_SS E ad (va_up v k g) 6] : List va_W).flatten := hD
  refine lv_aload_n hx hb dX4_save_31 rfl (lv_at hl 1 rfl) ?_
  refine lv_aload_n hx hb dX4_save_32 rfl (lv_at hl 1 rfl) ?_
  refine va_get (D := E.1) (ci := 3) (v := .int ct) (C := RX4) (T := TX4) (N := 3) hx hb hts hi_X4 hown hK.1 hP 0 rfl rfl 2 (by decide) (hts (.fieldLink RX4 30 "AltimeterWatch$SavedStates" "count" "I") (by decide +kernel)) (fun _ h9 => h9) rfl dX4_save_33 ?_
  refine lv_iconst (v := 1) hx hb dX4_save_36 (by decide) ?_
  refine lv_iadd hx hb dX4_save_37 ?_
  refine lv_bipush (v := 6) hx hb dX4_save_38 (by decide) ?_
  refine va_mmin hx hb (by rw [hml]; exact hl.1.symm) hown (hts (.methodLink RX4 33 Lib.Math.min.name) (by decide +kernel)) (hts (.static Lib.Math.min.name) (by decide +kernel)) (hts (.initialized "java/lang/Math") (by decide +kernel)) (hts (.code Lib.Math.min.name Lib.Math.min.code 2 (some .int)) (by decide +kernel)) (Nat.le_of_ble_eq_true rfl) (Nat.le_of_ble_eq_true rfl) (Nat.le_of_ble_eq_true rfl) (Nat.le_of_ble_eq_true rfl) dX4_save_40 ?_
  refine z_topi (y := nI (if m < 6 then m + 1 else 6)) (by rw [hct]; exact k_min6 hm) ?_
  refine va_put (D := E.1) (ci := 3) (v := .int (nI (if m < 6 then m + 1 else 6))) (ty := .int) (C := RX4) (T := TX4) (N := 3) hx hb hts hi_X4 tyX4 tyX4_ok nmX4 hown hK.1 hP hD hS 0 rfl rfl 2 (by decide) (hts (.fieldLink RX4 30 "AltimeterWatch$SavedStates" "count" "I") (by decide +kernel)) (fun _ h9 => h9) rfl (by decide +kernel) rfl rfl (Nat.le_of_ble_eq_true rfl) dX4_save_43 (fun H locs hP hD hS => ?_)
  have hP : va_P E.1 vwCl ([[(h0, .inr (3, [.ref q0, .int (nI ((k + 1) % 6)), .int (nI (if m < 6 then m + 1 else 6))]))], [(q0, .inl (E.2 2, 6, .inr (.inr (.inr (.inr (z_pl ad 6))))))], z_St E na g, z_SS E ad (va_up v k g) 6] : List va_W).flatten H := hP
  have hD : va_D A ([[(h0, .inr (3, [.ref q0, .int (nI ((k + 1) % 6)), .int (nI (if m < 6 then m + 1 else 6))]))], [(q0, .inl (E.2 2, 6, .inr (.inr (.inr (.inr (z_pl ad 6))))))], z_St E na g, z_SS E ad (va_up v k g) 6] : List va_W).flatten := hD
  have hP : va_P E.1 vwCl ([[(h0, .inr (3, [.ref q0, .int (nI ((k + 1) % 6)), .int (nI (if m < 6 then m + 1 else 6))]))], [(q0, .inl (E.2 2, 6, .inr (.inr (.inr (.inr (z_pl ad 6))))))], z_St E na g, z_SS E ad (va_up v k g) 6] : List va_W).flatten H := zf_sub hP [0, 1, 2, 3] rfl
  have hD : va_D A ([[(h0, .inr (3, [.ref q0, .int (nI ((k + 1) % 6)), .int (nI (if m < 6 then m + 1 else 6))]))], [(q0, .inl (E.2 2, 6, .inr (.inr (.inr (.inr (z_pl ad 6))))))], z_St E na g, z_SS E ad (va_up v k g) 6] : List va_W).flatten := zf_subD hD [0, 1, 2, 3] (by decide) rfl
  exact W.vret hx hb hr (z_end hP hD hS rfl) hS.2.2 dX4_save_46 hlocks

set_option maxHeartbeats 4000000 in
set_option maxRecDepth 100000 in
theorem c_X4_restoreLast (l : Launch) (E : zE) (h0 q0 k m : Nat) (na : Nat → Nat) (nx ct : Int32) (ad : Nat → Nat → Nat) (v : Nat → Nat → Int32) (g : Nat → Int32) (hnx : nx = nI k) (hk : k < 6) (hct : ct = nI m) (hm : m ≤ 6) (hm1 : 1 ≤ m) (hb2 : v ((k + 5) % 6) 2 = 0 ∨ v ((k + 5) % 6) 2 = 1) (hb13 : v ((k + 5) % 6) 13 = 0 ∨ v ((k + 5) % 6) 13 = 1) : zM l yX4_restoreLast wsX4_restoreLast ({ frames := 4, cells := 0, slots := 0, locals := 89 }) E [.ref h0, .ref (na 0)] ([[(h0, .inr (3, [.ref q0, .int nx, .int ct]))], [(q0, .inl (E.2 2, 6, .inr (.inr (.inr (.inr (z_pl ad 6))))))], z_St E na g, z_SS E ad v 6] : List va_W).flatten none ([[(h0, .inr (3, [.ref q0, .int (nI ((k + 5) % 6)), .int (nI (m - 1))]))], [(q0, .inl (E.2 2, 6, .inr (.inr (.inr (.inr (z_pl ad 6))))))], z_St E na (v ((k + 5) % 6)), z_SS E ad v 6] : List va_W).flatten 0 0 := by
  have hk5 : (k + 5) % 6 < 6 := Nat.mod_lt _ (by decide)
  refine z_start (cc := cX4_restoreLast) (maxL := 4) (ret := none) (by decide) rfl (Nat.le_of_ble_eq_true rfl) ?_
  intro Pg En s Mi below meth Cd A hx hb hr hts hown hlocks hin hml hA H hH hP hK hD hS ls hl
  have hl : lv_has ls 4 [(0, .ref h0), (1, .ref (na 0))] := hl
  have hi_X4 : ∀ w ∈ wsX40, w ∈ wsX4_restoreLast := by decide +kernel
  refine lv_aload_n hx hb dX4_restoreLast_0 rfl (lv_at hl 0 rfl) ?_
  refine va_get (D := E.1) (ci := 3) (v := .int nx) (C := RX4) (T := TX4) (N := 3) hx hb hts hi_X4 hown hK.1 hP 0 rfl rfl 1 (by decide) (hts (.fieldLink RX4 18 "AltimeterWatch$SavedStates" "next" "I") (by decide +kernel)) (fun _ h9 => h9) rfl dX4_restoreLast_1 ?_
  refine lv_bipush (v := 6) hx hb dX4_restoreLast_4 (by decide) ?_
  refine lv_iadd hx hb dX4_restoreLast_6 ?_
  refine lv_iconst (v := 1) hx hb dX4_restoreLast_7 (by decide) ?_
  refine lv_isub hx hb dX4_restoreLast_8 ?_
  refine lv_bipush (v := 6) hx hb dX4_restoreLast_9 (by decide) ?_
  refine lv_irem hx hb dX4_restoreLast_11 (by decide) ?_
  refine z_topi (y := nI ((k + 5) % 6)) (by rw [hnx, show nI k + 6 - 1 = nI (k + 5) from (by rw [show nI k + 6 = nI (k + 6) from nI_add k 6]; exact pk_sub (a := k + 6) (b := 1) (by omega))]; exact pk_rem (a := k + 5) (d := 6) (by omega) (by decide) (by decide)) ?_
  refine lv_istore_n (lv' := [(2, .int (nI ((k + 5) % 6))), (0, .ref h0), (1, .ref (na 0))]) hx hb dX4_restoreLast_12 rfl hl (by decide) rfl (fun ls hl => ?_)
  refine lv_aload_n hx hb dX4_restoreLast_13 rfl (lv_at hl 1 rfl) ?_
  refine lv_iload_n hx hb dX4_restoreLast_14 rfl (lv_at hl 0 rfl) ?_
  have hPc : va_P E.1 vwCl ([[(h0, .inr (3, [.ref q0, .int nx, .int ct]))], [(q0, .inl (E.2 2, 6, .inr (.inr (.inr (.inr (z_pl ad 6))))))]] : List va_W).flatten H := zf_sub hP [0, 1] rfl
  refine z_rdv (va_runV (As := [.int (nI ((k + 5) % 6))]) (rest := []) ⟨hx, hb, hml, hown, hts⟩ (c_X4_placeOf l E h0 q0 ((k + 5) % 6) nx ct (nI ((k + 5) % 6)) ad rfl hk5) (cwV 1 hts gX4_restoreLast_X4_placeOf rfl rfl rfl (by decide +kernel) ⟨Nat.le_of_ble_eq_true rfl, Nat.le_of_ble_eq_true rfl⟩) ⟨zPr.blind, va_recv hK.1 hPc (ci := 3) (q0 := 0) rfl rfl, z_prer hK hPc⟩ rfl rfl hl.1 rfl (lv_room (Nat.le_of_ble_eq_true rfl)) dX4_restoreLast_15 ⟨Nat.le_of_ble_eq_true rfl, Nat.le_of_ble_eq_true rfl⟩) ?_
  refine W.eq (g2 := F0 Mi 18 ls [.ref ((ad ((k + 5) % 6)) 0)]) rfl ?_
  refine lv_astore_n (lv' := [(3, .ref ((ad ((k + 5) % 6)) 0)), (2, .int (nI ((k + 5) % 6))), (0, .ref h0), (1, .ref (na 0))]) hx hb dX4_restoreLast_18 rfl hl (by decide) rfl (fun ls hl => ?_)
  refine lv_aload_n hx hb dX4_restoreLast_19 rfl (lv_at hl 2 rfl) ?_
  refine va_get (D := E.1) (ci := 3) (v := .int ct) (C := RX4) (T := TX4) (N := 3) hx hb hts hi_X4 hown hK.1 hP 0 rfl rfl 2 (by decide) (hts (.fieldLink RX4 30 "AltimeterWatch$SavedStates" "count" "I") (by decide +kernel)) (fun _ h9 => h9) rfl dX4_restoreLast_20 ?_
  refine lv_if_le (tgt := 50) hx hb dX4_restoreLast_23 (by decide) (fun h9 => absurd h9 ((by rw [hct]; exact nI_nle (by omega) (by omega)))) (fun _ => ?_)
  refine lv_aload_n hx hb dX4_restoreLast_26 rfl (lv_at hl 0 rfl) ?_
  refine lv_ifnull hx hb dX4_restoreLast_27 ?_
  have hP := zp_P (z_out (E := E) (ad := ad) (v := v) (S := [[(h0, .inr (3, [.ref q0, .int nx, .int ct]))], [(q0, .inl (E.2 2, 6, .inr (.inr (.inr (.inr (z_pl ad 6))))))], z_St E na g]) hk5) hP
  have hD := zp_D (z_out (E := E) (ad := ad) (v := v) (S := [[(h0, .inr (3, [.ref q0, .int nx, .int ct]))], [(q0, .inl (E.2 2, 6, .inr (.inr (.inr (.inr (z_pl ad 6))))))], z_St E na g]) hk5) hD
  have hP : va_P E.1 vwCl ([[(h0, .inr (3, [.ref q0, .int nx, .int ct]))], [(q0, .inl (E.2 2, 6, .inr (.inr (.inr (.inr (z_pl ad 6))))))], z_St E na g, z_St E (ad ((k + 5) % 6)) (v ((k + 5) % 6)), z_SX E ad v 6 ((k + 5) % 6)] : List va_W).flatten H := hP
  have hD : va_D A ([[(h0, .inr (3, [.ref q0, .int nx, .int ct]))], [(q0, .inl (E.2 2, 6, .inr (.inr (.inr (.inr (z_pl ad 6))))))], z_St E na g, z_St E (ad ((k + 5) % 6)) (v ((k + 5) % 6)), z_SX E ad v 6 ((k + 5) % 6)] : List va_W).flatten := hD
  refine lv_aload_n hx hb dX4_restoreLast_30 rfl (lv_at hl 3 rfl) ?_
  refine lv_aload_n hx hb dX4_restoreLast_31 rfl (lv_at hl 0 rfl) ?_
  have hPc : va_P E.1 vwCl ([z_St E na g, z_St E (ad ((k + 5) % 6)) (v ((k + 5) % 6))] : List va_W).flatten H := zf_sub hP [2, 3] rfl
  have hDc : va_D A ([z_St E na g, z_St E (ad ((k + 5) % 6)) (v ((k + 5) % 6))] : List va_W).flatten := zf_subD hD [2, 3] (by decide) rfl
  refine z_mut (Sc := [z_St E na g, z_St E (ad ((k + 5) % 6)) (v ((k + 5) % 6))]) (Sr := [[(h0, .inr (3, [.ref q0, .int nx, .int ct]))], [(q0, .inl (E.2 2, 6, .inr (.inr (.inr (.inr (z_pl ad 6))))))], z_SX E ad v 6 ((k + 5) % 6)]) (W1 := [z_St E na (v ((k + 5) % 6)), z_St E (ad ((k + 5) % 6)) (v ((k + 5) % 6))]) (va_runV (As := [.ref ((ad ((k + 5) % 6)) 0)]) (rest := []) ⟨hx, hb, hml, hown, hts⟩ (c_X5_copyFrom l E na (ad ((k + 5) % 6)) g (v ((k + 5) % 6)) hb2 hb13 H.size) (cwV 1 hts gX4_restoreLast_X5_copyFrom rfl rfl rfl (by decide +kernel) ⟨Nat.le_of_ble_eq_true rfl, Nat.le_of_ble_eq_true rfl⟩) ⟨zP.blind, va_recv hK.1 hPc (ci := 4) (q0 := 0) rfl rfl, z_pre hK hPc hDc⟩ rfl rfl hl.1 rfl (lv_room (Nat.le_of_ble_eq_true rfl)) dX4_restoreLast_32 ⟨Nat.le_of_ble_eq_true rfl, Nat.le_of_ble_eq_true rfl⟩) hP hD hS hA [2, 3] [0, 1, 4] rfl rfl (by decide) (by decide) (fun H locs hP hD hS => ?_)
  have hP : va_P E.1 vwCl ([[(h0, .inr (3, [.ref q0, .int nx, .int ct]))], [(q0, .inl (E.2 2, 6, .inr (.inr (.inr (.inr (z_pl ad 6))))))], z_SX E ad v 6 ((k + 5) % 6), z_St E na (v ((k + 5) % 6)), z_St E (ad ((k + 5) % 6)) (v ((k + 5) % 6))] : List va_W).flatten H := hP
  have hD : va_D A ([[(h0, .inr (3, [.ref q0, .int nx, .int ct]))], [(q0, .inl (E.2 2, 6, .inr (.inr (.inr (.inr (z_pl ad 6))))))], z_SX E ad v 6 ((k + 5) % 6), z_St E na (v ((k + 5) % 6)), z_St E (ad ((k + 5) % 6)) (v ((k + 5) % 6))] : List va_W).flatten := hD
  refine W.eq (g2 := F0 Mi 35 ls []) rfl ?_
  have hP : va_P E.1 vwCl ([[(h0, .inr (3, [.ref q0, .int nx, .int ct]))], [(q0, .inl (E.2 2, 6, .inr (.inr (.inr (.inr (z_pl ad 6))))))], z_St E na (v ((k + 5) % 6)), z_St E (ad ((k + 5) % 6)) (v ((k + 5) % 6)), z_SX E ad v 6 ((k + 5) % 6)] : List va_W).flatten H := zf_sub hP [0, 1, 3, 4, 2] rfl
  have hD : va_D A ([[(h0, .inr (3, [.ref q0, .int nx, .int ct]))], [(q0, .inl (E.2 2, 6, .inr (.inr (.inr (.inr (z_pl ad 6))))))], z_St E na (v ((k + 5) % 6)), z_St E (ad ((k + 5) % 6)) (v ((k + 5) % 6)), z_SX E ad v 6 ((k + 5) % 6)] : List va_W).flatten := zf_subD hD [0, 1, 3, 4, 2] (by decide) rfl
  have hP := zp_P (z_out (E := E) (ad := ad) (v := v) (n := 6) (S := [[(h0, .inr (3, [.ref q0, .int nx, .int ct]))], [(q0, .inl (E.2 2, 6, .inr (.inr (.inr (.inr (z_pl ad 6))))))], z_St E na (v ((k + 5) % 6))]) hk5).symm hP
  have hD := zp_D (z_out (E := E) (ad := ad) (v := v) (n := 6) (S := [[(h0, .inr (3, [.ref q0, .int nx, .int ct]))], [(q0, .inl (E.2 2, 6, .inr (.inr (.inr (.inr (z_pl ad 6))))))], z_St E na (v ((k + 5) % 6))]) hk5).symm hD
  have hP : va_P E.1 vwCl ([[(h0, .inr (3, [.ref q0, .int nx, .int ct]))], [(q0, .inl (E.2 2, 6, .inr (.inr (.inr (.inr (z_pl ad 6))))))], z_St E na (v ((k + 5) % 6)), z_SS E ad v 6] : List va_W).flatten H := hP
  have hD : va_D A ([[(h0, .inr (3, [.ref q0, .int nx, .int ct]))], [(q0, .inl (E.2 2, 6, .inr (.inr (.inr (.inr (z_pl ad 6))))))], z_St E na (v ((k + 5) % 6)), z_SS E ad v 6] : List va_W).flatten := hD
  refine lv_aload_n hx hb dX4_restoreLast_35 rfl (lv_at hl 2 rfl) ?_
  refine lv_iload_n hx hb dX4_restoreLast_36 rfl (lv_at hl 1 rfl) ?_
  refine va_put (D := E.1) (ci := 3) (v := .int (nI ((k + 5) % 6))) (ty := .int) (C := RX4) (T := TX4) (N := 3) hx hb hts hi_X4 tyX4 tyX4_ok nmX4 hown hK.1 hP hD hS 0 rfl rfl 1 (by decide) (hts (.fieldLink RX4 18 "AltimeterWatch$SavedStates" "next" "I") (by decide +kernel)) (fun _ h9 => h9) rfl (by decide +kernel) rfl rfl (Nat.le_of_ble_eq_true rfl) dX4_restoreLast_37 (fun H locs hP hD hS => ?_)
  have hP : va_P E.1 vwCl ([[(h0, .inr (3, [.ref q0, .int (nI ((k + 5) % 6)), .int ct]))], [(q0, .inl (E.2 2, 6, .inr (.inr (.inr (.inr (z_pl ad 6))))))], z_St E na (v ((k + 5) % 6)), z_SS E ad v 6] : List va_W).flatten H := hP
  have hD : va_D A ([[(h0, .inr (3, [.ref q0, .int (nI ((k + 5) % 6)), .int ct]))], [(q0, .inl (E.2 2, 6, .inr (.inr (.inr (.inr (z_pl ad 6))))))], z_St E na (v ((k + 5) % 6)), z_SS E ad v 6] : List va_W).flatten := hD
  refine lv_aload_n hx hb dX4_restoreLast_40 rfl (lv_at hl 2 rfl) ?_
  refine lv_dup hx hb dX4_restoreLast_41 rfl ?_
  refine va_get (D := E.1) (ci := 3) (v := .int ct) (C := RX4) (T := TX4) (N := 3) hx hb hts hi_X4 hown hK.1 hP 0 rfl rfl 2 (by decide) (hts (.fieldLink RX4 30 "AltimeterWatch$SavedStates" "count" "I") (by decide +kernel)) (fun _ h9 => h9) rfl dX4_restoreLast_42 ?_
  refine lv_iconst (v := 1) hx hb dX4_restoreLast_45 (by decide) ?_
  refine lv_isub hx hb dX4_restoreLast_46 ?_
  refine z_topi (y := nI (m - 1)) (by rw [hct]; exact pk_sub (a := m) (b := 1) hm1) ?_
  refine va_put (D := E.1) (ci := 3) (v := .int (nI (m - 1))) (ty := .int) (C := RX4) (T := TX4) (N := 3) hx hb hts hi_X4 tyX4 tyX4_ok nmX4 hown hK.1 hP hD hS 0 rfl rfl 2 (by decide) (hts (.fieldLink RX4 30 "AltimeterWatch$SavedStates" "count" "I") (by decide +kernel)) (fun _ h9 => h9) rfl (by decide +kernel) rfl rfl (Nat.le_of_ble_eq_true rfl) dX4_restoreLast_47 (fun H locs hP hD hS => ?_)
  have hP : va_P E.1 vwCl ([[(h0, .inr (3, [.ref q0, .int (nI ((k + 5) % 6)), .int (nI (m - 1))]))], [(q0, .inl (E.2 2, 6, .inr (.inr (.inr (.inr (z_pl ad 6))))))], z_St E na (v ((k + 5) % 6)), z_SS E ad v 6] : List va_W).flatten H := hP
  have hD : va_D A ([[(h0, .inr (3, [.ref q0, .int (nI ((k + 5) % 6)), .int (nI (m - 1))]))], [(q0, .inl (E.2 2, 6, .inr (.inr (.inr (.inr (z_pl ad 6))))))], z_St E na (v ((k + 5) % 6)), z_SS E ad v 6] : List va_W).flatten := hD
  have hP : va_P E.1 vwCl ([[(h0, .inr (3, [.ref q0, .int (nI ((k + 5) % 6)), .int (nI (m - 1))]))], [(q0, .inl (E.2 2, 6, .inr (.inr (.inr (.inr (z_pl ad 6))))))], z_St E na (v ((k + 5) % 6)), z_SS E ad v 6] : List va_W).flatten H := zf_sub hP [0, 1, 2, 3] rfl
  have hD : va_D A ([[(h0, .inr (3, [.ref q0, .int (nI ((k + 5) % 6)), .int (nI (m - 1))]))], [(q0, .inl (E.2 2, 6, .inr (.inr (.inr (.inr (z_pl ad 6))))))], z_St E na (v ((k + 5) % 6)), z_SS E ad v 6] : List va_W).flatten := zf_subD hD [0, 1, 2, 3] (by decide) rfl
  exact W.vret hx hb hr (z_end hP hD hS rfl) hS.2.2 dX4_restoreLast_50 hlocks

