set_option maxHeartbeats 4000000 in
set_option maxRecDepth 100000 in
theorem c_X9_init2 (l : Launch) (E : zE) (h0 : Nat) : zX l yX9_init wsX9_init ({ frames := 4, cells := 78, slots := 1092, locals := 81 }) E [.ref h0] ([[(h0, .inr (8, [.null, .null, .null, .null, .null]))]] : List va_W).flatten none (fun u : (Nat → Nat) × (Nat → Nat) × (Nat → Nat) × (Nat → Nat) × (Nat → Nat → Nat) => (z_W E (z_xa h0 (u.1 1) (u.1 2) (u.1 3) (u.1 4) (u.1 5) (u.1 6)) u.2.1 u.2.2.1 u.2.2.2.1 u.2.2.2.2 (fun _ => 0) 0 0 0 0 0 m_g0 m_g0 m_g0 (fun _ => m_g0)).flatten) 78 1092 := by
  refine z_startx (cc := cX9_init) (maxL := 1) (ret := none) (by decide) rfl (Nat.le_of_ble_eq_true rfl) ?_
  intro Pg En s Mi below meth Cd A hx hb hr hts hown hlocks hin hml hA H hH hP hK hD hS ls hl
  have hl : lv_has ls 1 [(0, .ref h0)] := hl
  have hi_X3 : ∀ w ∈ wsX30, w ∈ wsX9_init := by decide +kernel
  have hi_X4 : ∀ w ∈ wsX40, w ∈ wsX9_init := by decide +kernel
  have hi_X5 : ∀ w ∈ wsX50, w ∈ wsX9_init := by decide +kernel
  have hi_X7 : ∀ w ∈ wsX70, w ∈ wsX9_init := by decide +kernel
  have hi_X9 : ∀ w ∈ wsX90, w ∈ wsX9_init := by decide +kernel
  refine lv_aload_n hx hb dX9_init_0 rfl (lv_at hl 0 rfl) ?_
  refine W.objInit hx hb hown (hts (.methodLink RX9 1 objectInit) (by decide +kernel)) (hts (.instanceMethod objectInit) (by decide +kernel)) (hts (.code objectInit ⟨#[0xb1]⟩ 1 none) (by decide +kernel)) rfl (by rw [hml]; exact hl.1) rfl dX9_init_1 (Nat.le_of_ble_eq_true rfl) (Nat.le_of_ble_eq_true rfl) ?_
  refine W.eq (g2 := F0 Mi 4 ls []) rfl ?_
  refine lv_aload_n hx hb dX9_init_4 rfl (lv_at hl 0 rfl) ?_
  refine va_new (D := E.1) (ci := 4) (fs := [.int 0, .int 0, .int 0, .int 0, .int 0, .int 0, .int 0, .null, .null, .null]) (C := RX5) (T := TX5) (N := 10) hx hb hts hi_X5 tyX5 tyX5_ok hown (hts (.classLink RX9 7 RX5) (by decide +kernel)) (hts (.instantiable RX5 10) (by decide +kernel)) (hts (.initialized RX5) (by decide +kernel)) hK.1 hP hD hS hA rfl (fun j hj => by rcases (show j = 0 ∨ j = 1 ∨ j = 2 ∨ j = 3 ∨ j = 4 ∨ j = 5 ∨ j = 6 ∨ j = 7 ∨ j = 8 ∨ j = 9 by omega) with rfl | rfl | rfl | rfl | rfl | rfl | rfl | rfl | rfl | rfl <;> rfl) (Nat.le_of_ble_eq_true rfl) (Nat.le_of_ble_eq_true rfl) dX9_init_5 (fun q_5 H hP hD hS => ?_)
  have hP : va_P E.1 vwCl ([[(h0, .inr (8, [.null, .null, .null, .null, .null]))], [(q_5, .inr (4, [.int 0, .int 0, .int 0, .int 0, .int 0, .int 0, .int 0, .null, .null, .null]))]] : List va_W).flatten H := hP
  have hD : va_D A ([[(h0, .inr (8, [.null, .null, .null, .null, .null]))], [(q_5, .inr (4, [.int 0, .int 0, .int 0, .int 0, .int 0, .int 0, .int 0, .null, .null, .null]))]] : List va_W).flatten := hD
  refine W.widen (k := 1) (n := 10) (by decide) (by decide) ?_
  refine lv_dup hx hb dX9_init_8 rfl ?_
  have hPc : va_P E.1 vwCl ([[(q_5, .inr (4, [.int 0, .int 0, .int 0, .int 0, .int 0, .int 0, .int 0, .null, .null, .null]))]] : List va_W).flatten H := zf_sub hP [1] rfl
  have hDc : va_D A ([[(q_5, .inr (4, [.int 0, .int 0, .int 0, .int 0, .int 0, .int 0, .int 0, .null, .null, .null]))]] : List va_W).flatten := zf_subD hD [1] (by decide) rfl
  refine z_mutx (Sc := [[(q_5, .inr (4, [.int 0, .int 0, .int 0, .int 0, .int 0, .int 0, .int 0, .null, .null, .null]))]]) (Sr := [[(h0, .inr (8, [.null, .null, .null, .null, .null]))]]) (va_runIN (As := []) (rest := [.ref q_5, .ref h0]) ⟨hx, hb, hml, hown, hts⟩ (c_X5_init l E q_5 H.size) (⟨va_cnB 0 hts gX9_init_X5_init_n9 rfl rfl rfl (hK.2.2.2.2.1) (hts (.initialized RX5) (by decide +kernel)) (by decide +kernel) ⟨Nat.le_of_ble_eq_true rfl, Nat.le_of_ble_eq_true rfl⟩, rfl, hts (.instanceMethod yX5_init) (by decide +kernel)⟩) ⟨zP.blind, z_pre hK hPc hDc⟩ rfl rfl hl.1 rfl (lv_room (Nat.le_of_ble_eq_true rfl)) dX9_init_9 ⟨Nat.le_of_ble_eq_true rfl, Nat.le_of_ble_eq_true rfl⟩) hP hD hS hA [1] [0] rfl rfl (by decide) (by decide) (fun a_9 H locs hP hD hS => ?_)
  have hP : va_P E.1 vwCl ([[(h0, .inr (8, [.null, .null, .null, .null, .null]))], z_St E (z_ad q_5 (a_9 1) (a_9 2) (a_9 3) (a_9 4) (a_9 5) (a_9 6) (a_9 7)) m_g0] : List va_W).flatten H := hP
  have hD : va_D A ([[(h0, .inr (8, [.null, .null, .null, .null, .null]))], z_St E (z_ad q_5 (a_9 1) (a_9 2) (a_9 3) (a_9 4) (a_9 5) (a_9 6) (a_9 7)) m_g0] : List va_W).flatten := hD
  refine W.widen (k := 8) (n := 113) (by decide) (by decide) ?_
  obtain ⟨ad_9, ead⟩ : ∃ z : Nat → Nat, z = z_ad q_5 (a_9 1) (a_9 2) (a_9 3) (a_9 4) (a_9 5) (a_9 6) (a_9 7) := ⟨_, rfl⟩
  have eq0 : q_5 = ad_9 0 := by rw [ead]; rfl
  subst eq0
  rw [← ead] at hP hD
  clear ead
  refine W.eq (g2 := F0 Mi 12 ls [.ref (ad_9 0), .ref h0]) rfl ?_
  refine va_putF (D := E.1) (ci := 8) (v := .ref (ad_9 0)) (ty := .object "AltimeterWatch$State") (C := RX9) (T := TX9) (N := 5) hx hb hts hi_X9 tyX9 tyX9_ok nmX9 hown hK.1 hP hD hS 0 rfl rfl 0 (by decide) (hts (.fieldLink RX9 10 "AltimeterWatch" "now" "LAltimeterWatch$State;") (by decide +kernel)) (fun _ h9 => h9) rfl hin rfl (by decide +kernel) rfl rfl (Nat.le_of_ble_eq_true rfl) dX9_init_12 (fun H locs hP hD hS => ?_)
  have hP : va_P E.1 vwCl ([[(h0, .inr (8, [.ref (ad_9 0), .null, .null, .null, .null]))], z_St E ad_9 m_g0] : List va_W).flatten H := hP
  have hD : va_D A ([[(h0, .inr (8, [.ref (ad_9 0), .null, .null, .null, .null]))], z_St E ad_9 m_g0] : List va_W).flatten := hD
  refine lv_aload_n hx hb dX9_init_15 rfl (lv_at hl 0 rfl) ?_
  refine va_new (D := E.1) (ci := 3) (fs := [.null, .int 0, .int 0]) (C := RX4) (T := TX4) (N := 3) hx hb hts hi_X4 tyX4 tyX4_ok hown (hts (.classLink RX9 16 RX4) (by decide +kernel)) (hts (.instantiable RX4 3) (by decide +kernel)) (hts (.initialized RX4) (by decide +kernel)) hK.1 hP hD hS hA rfl (fun j hj => by rcases (show j = 0 ∨ j = 1 ∨ j = 2 by omega) with rfl | rfl | rfl <;> rfl) (Nat.le_of_ble_eq_true rfl) (Nat.le_of_ble_eq_true rfl) dX9_init_16 (fun q_16 H hP hD hS => ?_)
  have hP := zf_snoc hP
  have hD := zf_snocD hD
  have hP : va_P E.1 vwCl ([[(h0, .inr (8, [.ref (ad_9 0), .null, .null, .null, .null]))], z_St E ad_9 m_g0, [(q_16, .inr (3, [.null, .int 0, .int 0]))]] : List va_W).flatten H := hP
  have hD : va_D A ([[(h0, .inr (8, [.ref (ad_9 0), .null, .null, .null, .null]))], z_St E ad_9 m_g0, [(q_16, .inr (3, [.null, .int 0, .int 0]))]] : List va_W).flatten := hD
  refine W.widen (k := 9) (n := 116) (by decide) (by decide) ?_
  refine lv_dup hx hb dX9_init_19 rfl ?_
  have hPc : va_P E.1 vwCl ([[(q_16, .inr (3, [.null, .int 0, .int 0]))]] : List va_W).flatten H := zf_sub hP [2] rfl
  have hDc : va_D A ([[(q_16, .inr (3, [.null, .int 0, .int 0]))]] : List va_W).flatten := zf_subD hD [2] (by decide) rfl
  refine z_mutx (Sc := [[(q_16, .inr (3, [.null, .int 0, .int 0]))]]) (Sr := [[(h0, .inr (8, [.ref (ad_9 0), .null, .null, .null, .null]))], z_St E ad_9 m_g0]) (va_runI (As := []) (rest := [.ref q_16, .ref h0]) ⟨hx, hb, hml, hown, hts⟩ (c_X4_init l E q_16 0 0 H.size) (cwI 0 hts gX9_init_X4_init rfl rfl rfl (hts (.initialized RX4) (by decide +kernel)) (hts (.methodLink RX9 18 yX4_init) (by decide +kernel)) (hts (.instanceMethod yX4_init) (by decide +kernel)) rfl (by decide +kernel) ⟨Nat.le_of_ble_eq_true rfl, Nat.le_of_ble_eq_true rfl⟩) ⟨zP.blind, z_pre hK hPc hDc⟩ rfl rfl hl.1 rfl (lv_room (Nat.le_of_ble_eq_true rfl)) dX9_init_20 ⟨Nat.le_of_ble_eq_true rfl, Nat.le_of_ble_eq_true rfl⟩) hP hD hS hA [2] [0, 1] rfl rfl (by decide) (by decide) (fun ⟨a_20x, a_20y⟩ H locs hP hD hS => ?_)
  have hP : va_P E.1 vwCl ([[(h0, .inr (8, [.ref (ad_9 0), .null, .null, .null, .null]))], z_St E ad_9 m_g0, [(q_16, .inr (3, [.ref a_20y, .int 0, .int 0]))], [(a_20y, .inl (E.2 2, 6, .inr (.inr (.inr (.inr (z_pl a_20x 6))))))], z_SS E a_20x (fun _ => m_g0) 6] : List va_W).flatten H := hP
  have hD : va_D A ([[(h0, .inr (8, [.ref (ad_9 0), .null, .null, .null, .null]))], z_St E ad_9 m_g0, [(q_16, .inr (3, [.ref a_20y, .int 0, .int 0]))], [(a_20y, .inl (E.2 2, 6, .inr (.inr (.inr (.inr (z_pl a_20x 6))))))], z_SS E a_20x (fun _ => m_g0) 6] : List va_W).flatten := hD
  refine W.widen (k := 58) (n := 800) (by decide) (by decide) ?_
  refine W.eq (g2 := F0 Mi 23 ls [.ref q_16, .ref h0]) rfl ?_
  refine va_putF (D := E.1) (ci := 8) (v := .ref q_16) (ty := .object "AltimeterWatch$SavedStates") (C := RX9) (T := TX9) (N := 5) hx hb hts hi_X9 tyX9 tyX9_ok nmX9 hown hK.1 hP hD hS 0 rfl rfl 1 (by decide) (hts (.fieldLink RX9 19 "AltimeterWatch" "saved" "LAltimeterWatch$SavedStates;") (by decide +kernel)) (fun _ h9 => h9) rfl hin rfl (by decide +kernel) rfl rfl (Nat.le_of_ble_eq_true rfl) dX9_init_23 (fun H locs hP hD hS => ?_)
  have hP : va_P E.1 vwCl ([[(h0, .inr (8, [.ref (ad_9 0), .ref q_16, .null, .null, .null]))], z_St E ad_9 m_g0, [(q_16, .inr (3, [.ref a_20y, .int 0, .int 0]))], [(a_20y, .inl (E.2 2, 6, .inr (.inr (.inr (.inr (z_pl a_20x 6))))))], z_SS E a_20x (fun _ => m_g0) 6] : List va_W).flatten H := hP
  have hD : va_D A ([[(h0, .inr (8, [.ref (ad_9 0), .ref q_16, .null, .null, .null]))], z_St E ad_9 m_g0, [(q_16, .inr (3, [.ref a_20y, .int 0, .int 0]))], [(a_20y, .inl (E.2 2, 6, .inr (.inr (.inr (.inr (z_pl a_20x 6))))))], z_SS E a_20x (fun _ => m_g0) 6] : List va_W).flatten := hD
  refine lv_aload_n hx hb dX9_init_26 rfl (lv_at hl 0 rfl) ?_
  refine va_new (D := E.1) (ci := 2) (fs := [.null, .int 0]) (C := RX3) (T := TX3) (N := 2) hx hb hts hi_X3 tyX3 tyX3_ok hown (hts (.classLink RX9 23 RX3) (by decide +kernel)) (hts (.instantiable RX3 2) (by decide +kernel)) (hts (.initialized RX3) (by decide +kernel)) hK.1 hP hD hS hA rfl (fun j hj => by rcases (show j = 0 ∨ j = 1 by omega) with rfl | rfl <;> rfl) (Nat.le_of_ble_eq_true rfl) (Nat.le_of_ble_eq_true rfl) dX9_init_27 (fun q_27 H hP hD hS => ?_)
  have hP := zf_snoc hP
  have hD := zf_snocD hD
  have hP : va_P E.1 vwCl ([[(h0, .inr (8, [.ref (ad_9 0), .ref q_16, .null, .null, .null]))], z_St E ad_9 m_g0, [(q_16, .inr (3, [.ref a_20y, .int 0, .int 0]))], [(a_20y, .inl (E.2 2, 6, .inr (.inr (.inr (.inr (z_pl a_20x 6))))))], z_SS E a_20x (fun _ => m_g0) 6, [(q_27, .inr (2, [.null, .int 0]))]] : List va_W).flatten H := hP
  have hD : va_D A ([[(h0, .inr (8, [.ref (ad_9 0), .ref q_16, .null, .null, .null]))], z_St E ad_9 m_g0, [(q_16, .inr (3, [.ref a_20y, .int 0, .int 0]))], [(a_20y, .inl (E.2 2, 6, .inr (.inr (.inr (.inr (z_pl a_20x 6))))))], z_SS E a_20x (fun _ => m_g0) 6, [(q_27, .inr (2, [.null, .int 0]))]] : List va_W).flatten := hD
  have hP : va_P E.1 vwCl ([[(h0, .inr (8, [.ref (ad_9 0), .ref q_16, .null, .null, .null]))], z_St E ad_9 m_g0, [(q_16, .inr (3, [.ref a_20y, .int 0, .int 0]))], [(a_20y, .inl (E.2 2, 6, .inr (.inr (.inr (.inr (z_pl a_20x 6))))))], [(q_27, .inr (2, [.null, .int 0]))], z_SS E a_20x (fun _ => m_g0) 6] : List va_W).flatten H := zf_sub hP [0, 1, 2, 3, 5, 4] rfl
  have hD : va_D A ([[(h0, .inr (8, [.ref (ad_9 0), .ref q_16, .null, .null, .null]))], z_St E ad_9 m_g0, [(q_16, .inr (3, [.ref a_20y, .int 0, .int 0]))], [(a_20y, .inl (E.2 2, 6, .inr (.inr (.inr (.inr (z_pl a_20x 6))))))], [(q_27, .inr (2, [.null, .int 0]))], z_SS E a_20x (fun _ => m_g0) 6] : List va_W).flatten := zf_subD hD [0, 1, 2, 3, 5, 4] (by decide) rfl
  refine W.widen (k := 59) (n := 802) (by decide) (by decide) ?_
  refine lv_dup hx hb dX9_init_30 rfl ?_
  have hPc : va_P E.1 vwCl ([[(q_27, .inr (2, [.null, .int 0]))]] : List va_W).flatten H := zf_sub hP [4] rfl
  have hDc : va_D A ([[(q_27, .inr (2, [.null, .int 0]))]] : List va_W).flatten := zf_subD hD [4] (by decide) rfl
  refine z_mutx (Sc := [[(q_27, .inr (2, [.null, .int 0]))]]) (Sr := [[(h0, .inr (8, [.ref (ad_9 0), .ref q_16, .null, .null, .null]))], z_St E ad_9 m_g0, [(q_16, .inr (3, [.ref a_20y, .int 0, .int 0]))], [(a_20y, .inl (E.2 2, 6, .inr (.inr (.inr (.inr (z_pl a_20x 6))))))], z_SS E a_20x (fun _ => m_g0) 6]) (va_runIN (As := []) (rest := [.ref q_27, .ref h0]) ⟨hx, hb, hml, hown, hts⟩ (c_X3_init l E q_27 0 H.size) (⟨va_cnB 0 hts gX9_init_X3_init_n25 rfl rfl rfl (hK.2.2.1) (hts (.initialized RX3) (by decide +kernel)) (by decide +kernel) ⟨Nat.le_of_ble_eq_true rfl, Nat.le_of_ble_eq_true rfl⟩, rfl, hts (.instanceMethod yX3_init) (by decide +kernel)⟩) ⟨zP.blind, z_pre hK hPc hDc⟩ rfl rfl hl.1 rfl (lv_room (Nat.le_of_ble_eq_true rfl)) dX9_init_31 ⟨Nat.le_of_ble_eq_true rfl, Nat.le_of_ble_eq_true rfl⟩) hP hD hS hA [4] [0, 1, 2, 3, 5] rfl rfl (by decide) (by decide) (fun ad_31 H locs hP hD hS => ?_)
  have hP : va_P E.1 vwCl ([[(h0, .inr (8, [.ref (ad_9 0), .ref q_16, .null, .null, .null]))], z_St E ad_9 m_g0, [(q_16, .inr (3, [.ref a_20y, .int 0, .int 0]))], [(a_20y, .inl (E.2 2, 6, .inr (.inr (.inr (.inr (z_pl a_20x 6))))))], z_SS E a_20x (fun _ => m_g0) 6, [(q_27, .inr (2, [.ref (ad_31 0), .int 0]))], z_St E ad_31 m_g0] : List va_W).flatten H := hP
  have hD : va_D A ([[(h0, .inr (8, [.ref (ad_9 0), .ref q_16, .null, .null, .null]))], z_St E ad_9 m_g0, [(q_16, .inr (3, [.ref a_20y, .int 0, .int 0]))], [(a_20y, .inl (E.2 2, 6, .inr (.inr (.inr (.inr (z_pl a_20x 6))))))], z_SS E a_20x (fun _ => m_g0) 6, [(q_27, .inr (2, [.ref (ad_31 0), .int 0]))], z_St E ad_31 m_g0] : List va_W).flatten := hD
  have hP : va_P E.1 vwCl ([[(h0, .inr (8, [.ref (ad_9 0), .ref q_16, .null, .null, .null]))], z_St E ad_9 m_g0, [(q_16, .inr (3, [.ref a_20y, .int 0, .int 0]))], [(a_20y, .inl (E.2 2, 6, .inr (.inr (.inr (.inr (z_pl a_20x 6))))))], [(q_27, .inr (2, [.ref (ad_31 0), .int 0]))], z_St E ad_31 m_g0, z_SS E a_20x (fun _ => m_g0) 6] : List va_W).flatten H := zf_sub hP [0, 1, 2, 3, 5, 6, 4] rfl
  have hD : va_D A ([[(h0, .inr (8, [.ref (ad_9 0), .ref q_16, .null, .null, .null]))], z_St E ad_9 m_g0, [(q_16, .inr (3, [.ref a_20y, .int 0, .int 0]))], [(a_20y, .inl (E.2 2, 6, .inr (.inr (.inr (.inr (z_pl a_20x 6))))))], [(q_27, .inr (2, [.ref (ad_31 0), .int 0]))], z_St E ad_31 m_g0, z_SS E a_20x (fun _ => m_g0) 6] : List va_W).flatten := zf_subD hD [0, 1, 2, 3, 5, 6, 4] (by decide) rfl
  refine W.widen (k := 67) (n := 915) (by decide) (by decide) ?_
  refine W.eq (g2 := F0 Mi 34 ls [.ref q_27, .ref h0]) rfl ?_
  refine va_putF (D := E.1) (ci := 8) (v := .ref q_27) (ty := .object "AltimeterWatch$Memory") (C := RX9) (T := TX9) (N := 5) hx hb hts hi_X9 tyX9 tyX9_ok nmX9 hown hK.1 hP hD hS 0 rfl rfl 2 (by decide) (hts (.fieldLink RX9 26 "AltimeterWatch" "memory0" "LAltimeterWatch$Memory;") (by decide +kernel)) (fun _ h9 => h9) rfl hin rfl (by decide +kernel) rfl rfl (Nat.le_of_ble_eq_true rfl) dX9_init_34 (fun H locs hP hD hS => ?_)
  have hP : va_P E.1 vwCl ([[(h0, .inr (8, [.ref (ad_9 0), .ref q_16, .ref q_27, .null, .null]))], z_St E ad_9 m_g0, [(q_16, .inr (3, [.ref a_20y, .int 0, .int 0]))], [(a_20y, .inl (E.2 2, 6, .inr (.inr (.inr (.inr (z_pl a_20x 6))))))], [(q_27, .inr (2, [.ref (ad_31 0), .int 0]))], z_St E ad_31 m_g0, z_SS E a_20x (fun _ => m_g0) 6] : List va_W).flatten H := hP
  have hD : va_D A ([[(h0, .inr (8, [.ref (ad_9 0), .ref q_16, .ref q_27, .null, .null]))], z_St E ad_9 m_g0, [(q_16, .inr (3, [.ref a_20y, .int 0, .int 0]))], [(a_20y, .inl (E.2 2, 6, .inr (.inr (.inr (.inr (z_pl a_20x 6))))))], [(q_27, .inr (2, [.ref (ad_31 0), .int 0]))], z_St E ad_31 m_g0, z_SS E a_20x (fun _ => m_g0) 6] : List va_W).flatten := hD
  refine lv_aload_n hx hb dX9_init_37 rfl (lv_at hl 0 rfl) ?_
  refine va_new (D := E.1) (ci := 2) (fs := [.null, .int 0]) (C := RX3) (T := TX3) (N := 2) hx hb hts hi_X3 tyX3 tyX3_ok hown (hts (.classLink RX9 23 RX3) (by decide +kernel)) (hts (.instantiable RX3 2) (by decide +kernel)) (hts (.initialized RX3) (by decide +kernel)) hK.1 hP hD hS hA rfl (fun j hj => by rcases (show j = 0 ∨ j = 1 by omega) with rfl | rfl <;> rfl) (Nat.le_of_ble_eq_true rfl) (Nat.le_of_ble_eq_true rfl) dX9_init_38 (fun q_38 H hP hD hS => ?_)
  have hP := zf_snoc hP
  have hD := zf_snocD hD
  have hP : va_P E.1 vwCl ([[(h0, .inr (8, [.ref (ad_9 0), .ref q_16, .ref q_27, .null, .null]))], z_St E ad_9 m_g0, [(q_16, .inr (3, [.ref a_20y, .int 0, .int 0]))], [(a_20y, .inl (E.2 2, 6, .inr (.inr (.inr (.inr (z_pl a_20x 6))))))], [(q_27, .inr (2, [.ref (ad_31 0), .int 0]))], z_St E ad_31 m_g0, z_SS E a_20x (fun _ => m_g0) 6, [(q_38, .inr (2, [.null, .int 0]))]] : List va_W).flatten H := hP
  have hD : va_D A ([[(h0, .inr (8, [.ref (ad_9 0), .ref q_16, .ref q_27, .null, .null]))], z_St E ad_9 m_g0, [(q_16, .inr (3, [.ref a_20y, .int 0, .int 0]))], [(a_20y, .inl (E.2 2, 6, .inr (.inr (.inr (.inr (z_pl a_20x 6))))))], [(q_27, .inr (2, [.ref (ad_31 0), .int 0]))], z_St E ad_31 m_g0, z_SS E a_20x (fun _ => m_g0) 6, [(q_38, .inr (2, [.null, .int 0]))]] : List va_W).flatten := hD
  have hP : va_P E.1 vwCl ([[(h0, .inr (8, [.ref (ad_9 0), .ref q_16, .ref q_27, .null, .null]))], z_St E ad_9 m_g0, [(q_16, .inr (3, [.ref a_20y, .int 0, .int 0]))], [(a_20y, .inl (E.2 2, 6, .inr (.inr (.inr (.inr (z_pl a_20x 6))))))], [(q_27, .inr (2, [.ref (ad_31 0), .int 0]))], z_St E ad_31 m_g0, [(q_38, .inr (2, [.null, .int 0]))], z_SS E a_20x (fun _ => m_g0) 6] : List va_W).flatten H := zf_sub hP [0, 1, 2, 3, 4, 5, 7, 6] rfl
  have hD : va_D A ([[(h0, .inr (8, [.ref (ad_9 0), .ref q_16, .ref q_27, .null, .null]))], z_St E ad_9 m_g0, [(q_16, .inr (3, [.ref a_20y, .int 0, .int 0]))], [(a_20y, .inl (E.2 2, 6, .inr (.inr (.inr (.inr (z_pl a_20x 6))))))], [(q_27, .inr (2, [.ref (ad_31 0), .int 0]))], z_St E ad_31 m_g0, [(q_38, .inr (2, [.null, .int 0]))], z_SS E a_20x (fun _ => m_g0) 6] : List va_W).flatten := zf_subD hD [0, 1, 2, 3, 4, 5, 7, 6] (by decide) rfl
  refine W.widen (k := 68) (n := 917) (by decide) (by decide) ?_
  refine lv_dup hx hb dX9_init_41 rfl ?_
  have hPc : va_P E.1 vwCl ([[(q_38, .inr (2, [.null, .int 0]))]] : List va_W).flatten H := zf_sub hP [6] rfl
  have hDc : va_D A ([[(q_38, .inr (2, [.null, .int 0]))]] : List va_W).flatten := zf_subD hD [6] (by decide) rfl
  refine z_mutx (Sc := [[(q_38, .inr (2, [.null, .int 0]))]]) (Sr := [[(h0, .inr (8, [.ref (ad_9 0), .ref q_16, .ref q_27, .null, .null]))], z_St E ad_9 m_g0, [(q_16, .inr (3, [.ref a_20y, .int 0, .int 0]))], [(a_20y, .inl (E.2 2, 6, .inr (.inr (.inr (.inr (z_pl a_20x 6))))))], [(q_27, .inr (2, [.ref (ad_31 0), .int 0]))], z_St E ad_31 m_g0, z_SS E a_20x (fun _ => m_g0) 6]) (va_runIN (As := []) (rest := [.ref q_38, .ref h0]) ⟨hx, hb, hml, hown, hts⟩ (c_X3_init l E q_38 0 H.size) (⟨va_cnB 0 hts gX9_init_X3_init_n25 rfl rfl rfl (hK.2.2.1) (hts (.initialized RX3) (by decide +kernel)) (by decide +kernel) ⟨Nat.le_of_ble_eq_true rfl, Nat.le_of_ble_eq_true rfl⟩, rfl, hts (.instanceMethod yX3_init) (by decide +kernel)⟩) ⟨zP.blind, z_pre hK hPc hDc⟩ rfl rfl hl.1 rfl (lv_room (Nat.le_of_ble_eq_true rfl)) dX9_init_42 ⟨Nat.le_of_ble_eq_true rfl, Nat.le_of_ble_eq_true rfl⟩) hP hD hS hA [6] [0, 1, 2, 3, 4, 5, 7] rfl rfl (by decide) (by decide) (fun ad_42 H locs hP hD hS => ?_)
  have hP : va_P E.1 vwCl ([[(h0, .inr (8, [.ref (ad_9 0), .ref q_16, .ref q_27, .null, .null]))], z_St E ad_9 m_g0, [(q_16, .inr (3, [.ref a_20y, .int 0, .int 0]))], [(a_20y, .inl (E.2 2, 6, .inr (.inr (.inr (.inr (z_pl a_20x 6))))))], [(q_27, .inr (2, [.ref (ad_31 0), .int 0]))], z_St E ad_31 m_g0, z_SS E a_20x (fun _ => m_g0) 6, [(q_38, .inr (2, [.ref (ad_42 0), .int 0]))], z_St E ad_42 m_g0] : List va_W).flatten H := hP
  have hD : va_D A ([[(h0, .inr (8, [.ref (ad_9 0), .ref q_16, .ref q_27, .null, .null]))], z_St E ad_9 m_g0, [(q_16, .inr (3, [.ref a_20y, .int 0, .int 0]))], [(a_20y, .inl (E.2 2, 6, .inr (.inr (.inr (.inr (z_pl a_20x 6))))))], [(q_27, .inr (2, [.ref (ad_31 0), .int 0]))], z_St E ad_31 m_g0, z_SS E a_20x (fun _ => m_g0) 6, [(q_38, .inr (2, [.ref (ad_42 0), .int 0]))], z_St E ad_42 m_g0] : List va_W).flatten := hD
  have hP : va_P E.1 vwCl ([[(h0, .inr (8, [.ref (ad_9 0), .ref q_16, .ref q_27, .null, .null]))], z_St E ad_9 m_g0, [(q_16, .inr (3, [.ref a_20y, .int 0, .int 0]))], [(a_20y, .inl (E.2 2, 6, .inr (.inr (.inr (.inr (z_pl a_20x 6))))))], [(q_27, .inr (2, [.ref (ad_31 0), .int 0]))], z_St E ad_31 m_g0, [(q_38, .inr (2, [.ref (ad_42 0), .int 0]))], z_St E ad_42 m_g0, z_SS E a_20x (fun _ => m_g0) 6] : List va_W).flatten H := zf_sub hP [0, 1, 2, 3, 4, 5, 7, 8, 6] rfl
  have hD : va_D A ([[(h0, .inr (8, [.ref (ad_9 0), .ref q_16, .ref q_27, .null, .null]))], z_St E ad_9 m_g0, [(q_16, .inr (3, [.ref a_20y, .int 0, .int 0]))], [(a_20y, .inl (E.2 2, 6, .inr (.inr (.inr (.inr (z_pl a_20x 6))))))], [(q_27, .inr (2, [.ref (ad_31 0), .int 0]))], z_St E ad_31 m_g0, [(q_38, .inr (2, [.ref (ad_42 0), .int 0]))], z_St E ad_42 m_g0, z_SS E a_20x (fun _ => m_g0) 6] : List va_W).flatten := zf_subD hD [0, 1, 2, 3, 4, 5, 7, 8, 6] (by decide) rfl
  refine W.widen (k := 76) (n := 1030) (by decide) (by decide) ?_
  refine W.eq (g2 := F0 Mi 45 ls [.ref q_38, .ref h0]) rfl ?_
  refine va_putF (D := E.1) (ci := 8) (v := .ref q_38) (ty := .object "AltimeterWatch$Memory") (C := RX9) (T := TX9) (N := 5) hx hb hts hi_X9 tyX9 tyX9_ok nmX9 hown hK.1 hP hD hS 0 rfl rfl 3 (by decide) (hts (.fieldLink RX9 30 "AltimeterWatch" "memory1" "LAltimeterWatch$Memory;") (by decide +kernel)) (fun _ h9 => h9) rfl hin rfl (by decide +kernel) rfl rfl (Nat.le_of_ble_eq_true rfl) dX9_init_45 (fun H locs hP hD hS => ?_)
  have hP : va_P E.1 vwCl ([[(h0, .inr (8, [.ref (ad_9 0), .ref q_16, .ref q_27, .ref q_38, .null]))], z_St E ad_9 m_g0, [(q_16, .inr (3, [.ref a_20y, .int 0, .int 0]))], [(a_20y, .inl (E.2 2, 6, .inr (.inr (.inr (.inr (z_pl a_20x 6))))))], [(q_27, .inr (2, [.ref (ad_31 0), .int 0]))], z_St E ad_31 m_g0, [(q_38, .inr (2, [.ref (ad_42 0), .int 0]))], z_St E ad_42 m_g0, z_SS E a_20x (fun _ => m_g0) 6] : List va_W).flatten H := hP
  have hD : va_D A ([[(h0, .inr (8, [.ref (ad_9 0), .ref q_16, .ref q_27, .ref q_38, .null]))], z_St E ad_9 m_g0, [(q_16, .inr (3, [.ref a_20y, .int 0, .int 0]))], [(a_20y, .inl (E.2 2, 6, .inr (.inr (.inr (.inr (z_pl a_20x 6))))))], [(q_27, .inr (2, [.ref (ad_31 0), .int 0]))], z_St E ad_31 m_g0, [(q_38, .inr (2, [.ref (ad_42 0), .int 0]))], z_St E ad_42 m_g0, z_SS E a_20x (fun _ => m_g0) 6] : List va_W).flatten := hD
  refine lv_aload_n hx hb dX9_init_48 rfl (lv_at hl 0 rfl) ?_
  refine va_new (D := E.1) (ci := 6) (fs := [.null, .int 0]) (C := RX7) (T := TX7) (N := 2) hx hb hts hi_X7 tyX7 tyX7_ok hown (hts (.classLink RX9 33 RX7) (by decide +kernel)) (hts (.instantiable RX7 2) (by decide +kernel)) (hts (.initialized RX7) (by decide +kernel)) hK.1 hP hD hS hA rfl (fun j hj => by rcases (show j = 0 ∨ j = 1 by omega) with rfl | rfl <;> rfl) (Nat.le_of_ble_eq_true rfl) (Nat.le_of_ble_eq_true rfl) dX9_init_49 (fun q_49 H hP hD hS => ?_)
  have hP := zf_snoc hP
  have hD := zf_snocD hD
  have hP : va_P E.1 vwCl ([[(h0, .inr (8, [.ref (ad_9 0), .ref q_16, .ref q_27, .ref q_38, .null]))], z_St E ad_9 m_g0, [(q_16, .inr (3, [.ref a_20y, .int 0, .int 0]))], [(a_20y, .inl (E.2 2, 6, .inr (.inr (.inr (.inr (z_pl a_20x 6))))))], [(q_27, .inr (2, [.ref (ad_31 0), .int 0]))], z_St E ad_31 m_g0, [(q_38, .inr (2, [.ref (ad_42 0), .int 0]))], z_St E ad_42 m_g0, z_SS E a_20x (fun _ => m_g0) 6, [(q_49, .inr (6, [.null, .int 0]))]] : List va_W).flatten H := hP
  have hD : va_D A ([[(h0, .inr (8, [.ref (ad_9 0), .ref q_16, .ref q_27, .ref q_38, .null]))], z_St E ad_9 m_g0, [(q_16, .inr (3, [.ref a_20y, .int 0, .int 0]))], [(a_20y, .inl (E.2 2, 6, .inr (.inr (.inr (.inr (z_pl a_20x 6))))))], [(q_27, .inr (2, [.ref (ad_31 0), .int 0]))], z_St E ad_31 m_g0, [(q_38, .inr (2, [.ref (ad_42 0), .int 0]))], z_St E ad_42 m_g0, z_SS E a_20x (fun _ => m_g0) 6, [(q_49, .inr (6, [.null, .int 0]))]] : List va_W).flatten := hD
  have hP : va_P E.1 vwCl ([[(h0, .inr (8, [.ref (ad_9 0), .ref q_16, .ref q_27, .ref q_38, .null]))], z_St E ad_9 m_g0, [(q_16, .inr (3, [.ref a_20y, .int 0, .int 0]))], [(a_20y, .inl (E.2 2, 6, .inr (.inr (.inr (.inr (z_pl a_20x 6))))))], [(q_27, .inr (2, [.ref (ad_31 0), .int 0]))], z_St E ad_31 m_g0, [(q_38, .inr (2, [.ref (ad_42 0), .int 0]))], z_St E ad_42 m_g0, [(q_49, .inr (6, [.null, .int 0]))], z_SS E a_20x (fun _ => m_g0) 6] : List va_W).flatten H := zf_sub hP [0, 1, 2, 3, 4, 5, 6, 7, 9, 8] rfl
  have hD : va_D A ([[(h0, .inr (8, [.ref (ad_9 0), .ref q_16, .ref q_27, .ref q_38, .null]))], z_St E ad_9 m_g0, [(q_16, .inr (3, [.ref a_20y, .int 0, .int 0]))], [(a_20y, .inl (E.2 2, 6, .inr (.inr (.inr (.inr (z_pl a_20x 6))))))], [(q_27, .inr (2, [.ref (ad_31 0), .int 0]))], z_St E ad_31 m_g0, [(q_38, .inr (2, [.ref (ad_42 0), .int 0]))], z_St E ad_42 m_g0, [(q_49, .inr (6, [.null, .int 0]))], z_SS E a_20x (fun _ => m_g0) 6] : List va_W).flatten := zf_subD hD [0, 1, 2, 3, 4, 5, 6, 7, 9, 8] (by decide) rfl
  refine W.widen (k := 77) (n := 1032) (by decide) (by decide) ?_
  refine lv_dup hx hb dX9_init_52 rfl ?_
  have hPc : va_P E.1 vwCl ([[(q_49, .inr (6, [.null, .int 0]))]] : List va_W).flatten H := zf_sub hP [8] rfl
  have hDc : va_D A ([[(q_49, .inr (6, [.null, .int 0]))]] : List va_W).flatten := zf_subD hD [8] (by decide) rfl
  refine z_mutx (Sc := [[(q_49, .inr (6, [.null, .int 0]))]]) (Sr := [[(h0, .inr (8, [.ref (ad_9 0), .ref q_16, .ref q_27, .ref q_38, .null]))], z_St E ad_9 m_g0, [(q_16, .inr (3, [.ref a_20y, .int 0, .int 0]))], [(a_20y, .inl (E.2 2, 6, .inr (.inr (.inr (.inr (z_pl a_20x 6))))))], [(q_27, .inr (2, [.ref (ad_31 0), .int 0]))], z_St E ad_31 m_g0, [(q_38, .inr (2, [.ref (ad_42 0), .int 0]))], z_St E ad_42 m_g0, z_SS E a_20x (fun _ => m_g0) 6]) (va_runIN (As := []) (rest := [.ref q_49, .ref h0]) ⟨hx, hb, hml, hown, hts⟩ (c_X7_init l E q_49 0 H.size) (⟨va_cnB 0 hts gX9_init_X7_init_n35 rfl rfl rfl (hK.2.2.2.1) (hts (.initialized RX7) (by decide +kernel)) (by decide +kernel) ⟨Nat.le_of_ble_eq_true rfl, Nat.le_of_ble_eq_true rfl⟩, rfl, hts (.instanceMethod yX7_init) (by decide +kernel)⟩) ⟨zP.blind, z_pre hK hPc hDc⟩ rfl rfl hl.1 rfl (lv_room (Nat.le_of_ble_eq_true rfl)) dX9_init_53 ⟨Nat.le_of_ble_eq_true rfl, Nat.le_of_ble_eq_true rfl⟩) hP hD hS hA [8] [0, 1, 2, 3, 4, 5, 6, 7, 9] rfl rfl (by decide) (by decide) (fun a_53 H locs hP hD hS => ?_)
  have hP : va_P E.1 vwCl ([[(h0, .inr (8, [.ref (ad_9 0), .ref q_16, .ref q_27, .ref q_38, .null]))], z_St E ad_9 m_g0, [(q_16, .inr (3, [.ref a_20y, .int 0, .int 0]))], [(a_20y, .inl (E.2 2, 6, .inr (.inr (.inr (.inr (z_pl a_20x 6))))))], [(q_27, .inr (2, [.ref (ad_31 0), .int 0]))], z_St E ad_31 m_g0, [(q_38, .inr (2, [.ref (ad_42 0), .int 0]))], z_St E ad_42 m_g0, z_SS E a_20x (fun _ => m_g0) 6, [(q_49, .inr (6, [.ref a_53, .int 0]))], [(a_53, .inl (E.2 0, 60, .inl (fun _ => 0)))]] : List va_W).flatten H := hP
  have hD : va_D A ([[(h0, .inr (8, [.ref (ad_9 0), .ref q_16, .ref q_27, .ref q_38, .null]))], z_St E ad_9 m_g0, [(q_16, .inr (3, [.ref a_20y, .int 0, .int 0]))], [(a_20y, .inl (E.2 2, 6, .inr (.inr (.inr (.inr (z_pl a_20x 6))))))], [(q_27, .inr (2, [.ref (ad_31 0), .int 0]))], z_St E ad_31 m_g0, [(q_38, .inr (2, [.ref (ad_42 0), .int 0]))], z_St E ad_42 m_g0, z_SS E a_20x (fun _ => m_g0) 6, [(q_49, .inr (6, [.ref a_53, .int 0]))], [(a_53, .inl (E.2 0, 60, .inl (fun _ => 0)))]] : List va_W).flatten := hD
  have hP : va_P E.1 vwCl ([[(h0, .inr (8, [.ref (ad_9 0), .ref q_16, .ref q_27, .ref q_38, .null]))], z_St E ad_9 m_g0, [(q_16, .inr (3, [.ref a_20y, .int 0, .int 0]))], [(a_20y, .inl (E.2 2, 6, .inr (.inr (.inr (.inr (z_pl a_20x 6))))))], [(q_27, .inr (2, [.ref (ad_31 0), .int 0]))], z_St E ad_31 m_g0, [(q_38, .inr (2, [.ref (ad_42 0), .int 0]))], z_St E ad_42 m_g0, [(q_49, .inr (6, [.ref a_53, .int 0]))], [(a_53, .inl (E.2 0, 60, .inl (fun _ => 0)))], z_SS E a_20x (fun _ => m_g0) 6] : List va_W).flatten H := zf_sub hP [0, 1, 2, 3, 4, 5, 6, 7, 9, 10, 8] rfl
  have hD : va_D A ([[(h0, .inr (8, [.ref (ad_9 0), .ref q_16, .ref q_27, .ref q_38, .null]))], z_St E ad_9 m_g0, [(q_16, .inr (3, [.ref a_20y, .int 0, .int 0]))], [(a_20y, .inl (E.2 2, 6, .inr (.inr (.inr (.inr (z_pl a_20x 6))))))], [(q_27, .inr (2, [.ref (ad_31 0), .int 0]))], z_St E ad_31 m_g0, [(q_38, .inr (2, [.ref (ad_42 0), .int 0]))], z_St E ad_42 m_g0, [(q_49, .inr (6, [.ref a_53, .int 0]))], [(a_53, .inl (E.2 0, 60, .inl (fun _ => 0)))], z_SS E a_20x (fun _ => m_g0) 6] : List va_W).flatten := zf_subD hD [0, 1, 2, 3, 4, 5, 6, 7, 9, 10, 8] (by decide) rfl
  refine W.widen (k := 78) (n := 1092) (by decide) (by decide) ?_
  refine W.eq (g2 := F0 Mi 56 ls [.ref q_49, .ref h0]) rfl ?_
  refine va_putF (D := E.1) (ci := 8) (v := .ref q_49) (ty := .object "AltimeterWatch$TripText") (C := RX9) (T := TX9) (N := 5) hx hb hts hi_X9 tyX9 tyX9_ok nmX9 hown hK.1 hP hD hS 0 rfl rfl 4 (by decide) (hts (.fieldLink RX9 36 "AltimeterWatch" "text" "LAltimeterWatch$TripText;") (by decide +kernel)) (fun _ h9 => h9) rfl hin rfl (by decide +kernel) rfl rfl (Nat.le_of_ble_eq_true rfl) dX9_init_56 (fun H locs hP hD hS => ?_)
  have hP : va_P E.1 vwCl ([[(h0, .inr (8, [.ref (ad_9 0), .ref q_16, .ref q_27, .ref q_38, .ref q_49]))], z_St E ad_9 m_g0, [(q_16, .inr (3, [.ref a_20y, .int 0, .int 0]))], [(a_20y, .inl (E.2 2, 6, .inr (.inr (.inr (.inr (z_pl a_20x 6))))))], [(q_27, .inr (2, [.ref (ad_31 0), .int 0]))], z_St E ad_31 m_g0, [(q_38, .inr (2, [.ref (ad_42 0), .int 0]))], z_St E ad_42 m_g0, [(q_49, .inr (6, [.ref a_53, .int 0]))], [(a_53, .inl (E.2 0, 60, .inl (fun _ => 0)))], z_SS E a_20x (fun _ => m_g0) 6] : List va_W).flatten H := hP
  have hD : va_D A ([[(h0, .inr (8, [.ref (ad_9 0), .ref q_16, .ref q_27, .ref q_38, .ref q_49]))], z_St E ad_9 m_g0, [(q_16, .inr (3, [.ref a_20y, .int 0, .int 0]))], [(a_20y, .inl (E.2 2, 6, .inr (.inr (.inr (.inr (z_pl a_20x 6))))))], [(q_27, .inr (2, [.ref (ad_31 0), .int 0]))], z_St E ad_31 m_g0, [(q_38, .inr (2, [.ref (ad_42 0), .int 0]))], z_St E ad_42 m_g0, [(q_49, .inr (6, [.ref a_53, .int 0]))], [(a_53, .inl (E.2 0, 60, .inl (fun _ => 0)))], z_SS E a_20x (fun _ => m_g0) 6] : List va_W).flatten := hD
  have hP : va_P E.1 vwCl ([[(h0, .inr (8, [.ref (ad_9 0), .ref q_16, .ref q_27, .ref q_38, .ref q_49]))], [(q_49, .inr (6, [.ref a_53, .int 0]))], [(a_53, .inl (E.2 0, 60, .inl (fun _ => 0)))], [(q_16, .inr (3, [.ref a_20y, .int 0, .int 0]))], [(a_20y, .inl (E.2 2, 6, .inr (.inr (.inr (.inr (z_pl a_20x 6))))))], [(q_27, .inr (2, [.ref (ad_31 0), .int 0]))], [(q_38, .inr (2, [.ref (ad_42 0), .int 0]))], z_St E ad_9 m_g0, z_St E ad_31 m_g0, z_St E ad_42 m_g0, z_SS E a_20x (fun _ => m_g0) 6] : List va_W).flatten H := zf_sub hP [0, 8, 9, 2, 3, 4, 6, 1, 5, 7, 10] rfl
  have hD : va_D A ([[(h0, .inr (8, [.ref (ad_9 0), .ref q_16, .ref q_27, .ref q_38, .ref q_49]))], [(q_49, .inr (6, [.ref a_53, .int 0]))], [(a_53, .inl (E.2 0, 60, .inl (fun _ => 0)))], [(q_16, .inr (3, [.ref a_20y, .int 0, .int 0]))], [(a_20y, .inl (E.2 2, 6, .inr (.inr (.inr (.inr (z_pl a_20x 6))))))], [(q_27, .inr (2, [.ref (ad_31 0), .int 0]))], [(q_38, .inr (2, [.ref (ad_42 0), .int 0]))], z_St E ad_9 m_g0, z_St E ad_31 m_g0, z_St E ad_42 m_g0, z_SS E a_20x (fun _ => m_g0) 6] : List va_W).flatten := zf_subD hD [0, 8, 9, 2, 3, 4, 6, 1, 5, 7, 10] (by decide) rfl
  exact W.vret hx hb hr (z_endx (w1 := (fun u : (Nat → Nat) × (Nat → Nat) × (Nat → Nat) × (Nat → Nat) × (Nat → Nat → Nat) => (z_W E (z_xa h0 (u.1 1) (u.1 2) (u.1 3) (u.1 4) (u.1 5) (u.1 6)) u.2.1 u.2.2.1 u.2.2.2.1 u.2.2.2.2 (fun _ => 0) 0 0 0 0 0 m_g0 m_g0 m_g0 (fun _ => m_g0)).flatten)) (z_xa h0 q_49 a_53 q_16 a_20y q_27 q_38, ad_9, ad_31, ad_42, a_20x) hP hD hS rfl) hS.2.2 dX9_init_59 hlocks

theorem z_str {own tx : String} {k : Nat} {A : Array Value} {s : State} (h : (Cond.stringRef own k tx).before A s = true) (hc : ∃ cur, s.vm.findClass own = some cur) : ∃ a, vk_R own k tx a s := by
  obtain ⟨cur, hc⟩ := hc
  obtain ⟨_, _, _, a, _, _, _, _, _, hev⟩ := Cond.stringRef_spec hc h
  exact ⟨a, vk_R.of h hev⟩
theorem z_arI {A : Array Value} {s : State} (h : (Cond.arrayClass .int).before A s = true) : ∃ cA : ClassId, ArrOfT s cA .int ∧ va_RA s cA .int := by
  obtain ⟨c, k, comp, h1, h2, h3⟩ := Cond.arrayClass_spec h
  exact ⟨c, fun n z => ⟨fun k h => (by cases h), k, h2, comp, h3⟩, h1⟩
theorem z_arZ {A : Array Value} {s : State} (h : (Cond.arrayClass .boolean).before A s = true) : ∃ cA : ClassId, ArrOfT s cA .boolean ∧ va_RA s cA .boolean := by
  obtain ⟨c, k, comp, h1, h2, h3⟩ := Cond.arrayClass_spec h
  exact ⟨c, fun n z => ⟨fun k h => (by cases h), k, h2, comp, h3⟩, h1⟩
theorem z_arJ {A : Array Value} {s : State} (h : (Cond.arrayClass .long).before A s = true) : ∃ cA : ClassId, ArrOfT s cA .long ∧ va_RA s cA .long := by
  obtain ⟨c, k, comp, h1, h2, h3⟩ := Cond.arrayClass_spec h
  exact ⟨c, fun n z => ⟨fun k h => (by cases h), k, h2, comp, h3⟩, h1⟩
theorem z_arO {C : String} {A : Array Value} {s : State} (h : (Cond.arrayOver (.object C)).before A s = true) : ∃ cA : ClassId, ArrOfT s cA (.object C) ∧ va_RA s cA (.object C) := by
  obtain ⟨comp, c, k, h1, h2, h3, h4, h5⟩ := Cond.arrayOver_spec h
  exact ⟨c, fun n z => ⟨fun k h => (by cases h), k, h3, comp, h4⟩, k, comp, h3, h4, h1, h5⟩
set_option maxHeartbeats 4000000 in
set_option maxRecDepth 100000 in
theorem z_known {A : Array Value} {s : State} (hts : ∀ w ∈ lw_tbl, w.before A s = true) : ∃ E : zE, zK E s := by
  obtain ⟨c0, i0, hk0⟩ := u_known (C := RX1) (T := TX1) (N := 4) (n := 4) hts inX1 (hts (.instantiable RX1 4) (by decide +kernel))
  obtain ⟨c1, i1, hk1⟩ := u_known (C := RX2) (T := TX2) (N := 4) (n := 4) hts inX2 (hts (.instantiable RX2 4) (by decide +kernel))
  obtain ⟨c2, i2, hk2⟩ := u_known (C := RX3) (T := TX3) (N := 2) (n := 2) hts inX3 (hts (.instantiable RX3 2) (by decide +kernel))
  obtain ⟨c3, i3, hk3⟩ := u_known (C := RX4) (T := TX4) (N := 3) (n := 3) hts inX4 (hts (.instantiable RX4 3) (by decide +kernel))
  obtain ⟨c4, i4, hk4⟩ := u_known (C := RX5) (T := TX5) (N := 10) (n := 10) hts inX5 (hts (.instantiable RX5 10) (by decide +kernel))
  obtain ⟨c5, i5, hk5⟩ := u_known (C := RX6) (T := TX6) (N := 3) (n := 3) hts inX6 (hts (.instantiable RX6 3) (by decide +kernel))
  obtain ⟨c6, i6, hk6⟩ := u_known (C := RX7) (T := TX7) (N := 2) (n := 2) hts inX7 (hts (.instantiable RX7 2) (by decide +kernel))
  obtain ⟨c7, i7, hk7⟩ := u_known (C := RX8) (T := TX8) (N := 5) (n := 5) hts inX8 (hts (.instantiable RX8 5) (by decide +kernel))
  obtain ⟨c8, i8, hk8⟩ := u_known (C := RX9) (T := TX9) (N := 5) (n := 5) hts inX9 (hts (.instantiable RX9 5) (by decide +kernel))
  obtain ⟨c9, i9, hk9⟩ := u_known (C := RX10) (T := TX10) (N := 11) (n := 11) hts inX10 (hts (.instantiable RX10 11) (by decide +kernel))
  obtain ⟨a0, ha0⟩ := z_arI (hts (.arrayClass .int) (by decide +kernel))
  obtain ⟨a1, ha1⟩ := z_arZ (hts (.arrayClass .boolean) (by decide +kernel))
  obtain ⟨a2, ha2⟩ := z_arO (C := RX5) (hts (.arrayOver (.object RX5)) (by decide +kernel))
  obtain ⟨a3, ha3⟩ := z_arJ (hts (.arrayClass .long) (by decide +kernel))
  refine ⟨((fun k => match k with | 0 => c0 | 1 => c1 | 2 => c2 | 3 => c3 | 4 => c4 | 5 => c5 | 6 => c6 | 7 => c7 | 8 => c8 | 9 => c9 | _ => 0, fun k => match k with | 0 => i0 | 1 => i1 | 2 => i2 | 3 => i3 | 4 => i4 | 5 => i5 | 6 => i6 | 7 => i7 | 8 => i8 | 9 => i9 | _ => fun _ => 0), fun k => match k with | 0 => a0 | 1 => a1 | 2 => a2 | 3 => a3 | _ => 0), ⟨?_, ?_⟩, ?_⟩
  · intro k q hq
    match k, hq with
    | 0, hq => cases hq; exact hk0
    | 1, hq => cases hq; exact hk1
    | 2, hq => cases hq; exact hk2
    | 3, hq => cases hq; exact hk3
    | 4, hq => cases hq; exact hk4
    | 5, hq => cases hq; exact hk5
    | 6, hq => cases hq; exact hk6
    | 7, hq => cases hq; exact hk7
    | 8, hq => cases hq; exact hk8
    | 9, hq => cases hq; exact hk9
    | k + 10, hq => simp [vwCl] at hq
  · intro k q hq
    match k, hq with
    | 0, hq => cases hq; exact ha0
    | 1, hq => cases hq; exact ha1
    | 2, hq => cases hq; exact ha2
    | 3, hq => cases hq; exact ha3
    | k + 4, hq => simp [zty] at hq
  · exact ⟨va_Nw.of rfl (hts (.methodLinkNest RX9 186 yX6_init RX9) (by decide +kernel)), va_Nw.of rfl (hts (.methodLinkNest RX9 25 yX3_init RX9) (by decide +kernel)), va_Nw.of rfl (hts (.methodLinkNest RX9 35 yX7_init RX9) (by decide +kernel)), va_Nw.of rfl (hts (.methodLinkNest RX9 9 yX5_init RX9) (by decide +kernel)), va_Nw.of rfl (hts (.methodLinkNest RX2 21 yX9_copyRow RX9) (by decide +kernel)), va_Nw.of rfl (hts (.methodLinkNest RX2 29 yX9_moveUp RX9) (by decide +kernel)), va_Nw.of rfl (hts (.methodLinkNest RX2 33 yX9_elementOf RX9) (by decide +kernel)), va_Nw.of rfl (hts (.methodLinkNest RX3 9 yX5_init RX9) (by decide +kernel)), va_Nw.of rfl (hts (.methodLinkNest RX4 17 yX5_init RX9) (by decide +kernel)), va_Nw.of rfl (hts (.methodLinkNest RX5 20 yX1_init RX9) (by decide +kernel)), va_Nw.of rfl (hts (.methodLinkNest RX5 27 yX8_init RX9) (by decide +kernel)), va_Nw.of rfl (hts (.methodLinkNest RX5 34 yX2_init RX9) (by decide +kernel)), va_Nw.of rfl (hts (.methodLinkNest RX8 19 yX9_copyRow RX9) (by decide +kernel)), va_Nw.of rfl (hts (.methodLinkNest RX8 41 yX9_moveUp RX9) (by decide +kernel)), va_Nw.of rfl (hts (.methodLinkNest RX8 53 yX9_elementOf RX9) (by decide +kernel)), va_AO.of (hts (.arrayOver (.object RX5)) (by decide +kernel))⟩
set_option maxHeartbeats 4000000 in
set_option maxRecDepth 100000 in
theorem z_texts {A : Array Value} {s : State} (hts : ∀ w ∈ lw_tbl, w.before A s = true) (hc : ∃ cur, s.vm.findClass RX9 = some cur) : ∃ sa : Nat → Nat, zT sa s := by
  obtain ⟨s0, hs0⟩ := z_str (hts (.stringRef RX9 176 "the buffer is full") (by decide +kernel)) hc
  obtain ⟨s1, hs1⟩ := z_str (hts (.stringRef RX9 196 "the buffer is not a complete trip text") (by decide +kernel)) hc
  obtain ⟨s2, hs2⟩ := z_str (hts (.stringRef RX9 212 "no state is saved") (by decide +kernel)) hc
  obtain ⟨s3, hs3⟩ := z_str (hts (.stringRef RX9 230 "the memory is empty") (by decide +kernel)) hc
  obtain ⟨s4, hs4⟩ := z_str (hts (.stringRef RX9 245 "out of range") (by decide +kernel)) hc
  obtain ⟨s5, hs5⟩ := z_str (hts (.stringRef RX9 249 "there is no such mark") (by decide +kernel)) hc
  exact ⟨fun k => match k with | 0 => s0 | 1 => s1 | 2 => s2 | 3 => s3 | 4 => s4 | 5 => s5 | _ => 0, va_Nw.of rfl (hts (.declares (Bundle.initS "java/lang/RuntimeException")) (by decide +kernel)), va_Nw.of rfl (hts (.declares (Bundle.initS "java/lang/Exception")) (by decide +kernel)), va_Nw.of rfl (hts (.declares (Bundle.initS "java/lang/Throwable")) (by decide +kernel)),
    va_Nw.of rfl (hts (.castable zIA zIA) (by decide +kernel)), va_Nw.of rfl (hts (.castable zIS zIS) (by decide +kernel)), va_Nw.of rfl (hts (.castable zIO zIO) (by decide +kernel)), hs0, hs1, hs2, hs3, hs4, hs5⟩
set_option maxHeartbeats 4000000 in
set_option maxRecDepth 100000 in
/-- YOUR PART: from the entry, for every script of at most 1536 ints, the law comes to its end with true -/
theorem whole_start {p : Program} {e : Env} {s : State} {m : MethodId} {below : List Frame} {meth : Method} {c : Code} (l : Launch) (hflags : l.flags = flags0) {b L : Nat} {xs : Nat → Int32} (hL : L ≤ 1536) (C0 : lw_At p s m meth c b L xs) : W p l e room_1 s m #[Value.ref b] below meth c s.heap [] 0 0 (lw_Z below #[Value.ref b] s) (entryFrame m ([Value.ref b] : List Value).toArray 9) := by
  obtain ⟨hx, hb, hr, hml, hown, htsT, hX, hbl, hlocks, hgv⟩ := C0
  have hl0 : l.stackTraces = false := by
    unfold Launch.stackTraces
    rw [hflags]
    decide +kernel
  have hb : c.code = cL_law := hb
  have hA : ∀ q : Nat, s.heap.size ≤ q → (fun q : Nat => s.heap.size ≤ q) q := fun _ h => h
  have hbA : ¬ (fun q : Nat => s.heap.size ≤ q) b := Nat.not_le.mpr hbl
  obtain ⟨E, hK⟩ := z_known htsT
  obtain ⟨sa, hT⟩ := z_texts htsT ⟨_, (hK.1.1 8 _ rfl).2.1⟩
  have hts : ∀ w ∈ wsL_law, w.before #[Value.ref b] s = true := fun w hw => htsT w (wsL_law_in w hw)
  have hg := flat_of_before _ hgv
  have hN : va_Nc zIS zIA s := va_Nc.of (hg (.not (.castable zIS zIA)) (by decide +kernel))
  have hZA : ∀ a : Nat, a < s.heap.size → ¬ (fun q : Nat => s.heap.size ≤ q) a := fun a h => Nat.not_le.mpr h
  have hZ : zZ (fun q : Nat => s.heap.size ≤ q) s s.heap := ⟨vx_Zqof (htsT (.laysStatic Bundle.tN "UNASSIGNED_STACK" Bundle.steD) (by decide +kernel)) (htsT (.initialized Bundle.tN) (by decide +kernel)) (hg (.isRef (.static Bundle.tN "UNASSIGNED_STACK" Bundle.steD)) (by decide +kernel)) hZA, vx_Zqof (htsT (.laysStatic Bundle.tN "SUPPRESSED_SENTINEL" Bundle.listD) (by decide +kernel)) (htsT (.initialized Bundle.tN) (by decide +kernel)) (hg (.isRef (.static Bundle.tN "SUPPRESSED_SENTINEL" Bundle.listD)) (by decide +kernel)) hZA⟩
  have C : z_LC p s m c b L xs E sa (fun q : Nat => s.heap.size ≤ q) := ⟨hx, hb, hown, hml, hts, hX, hbl, hK, hT, hN, hZ, hL, hA, hbA⟩
  have hS : va_S (fun q : Nat => s.heap.size ≤ q) s.heap s.heap [] := va_S.rf
  have hP : va_P E.1 vwCl [] s.heap := fun k q h => by simp at h
  have hD : va_D (fun q : Nat => s.heap.size ≤ q) [] := ⟨fun i j p q h => by simp at h, fun k q h => by simp at h⟩
  have hl := lv_entry ([.ref b]) (n := 9) (Nat.le_of_ble_eq_true rfl)
  rw [lg_entry_eq]
  generalize (lg_sl ([.ref b]) ++ List.replicate (9 - (lg_sl ([.ref b])).length) Slot.unset).toArray = ls at hl ⊢
  have hl : lv_has ls 9 [(0, .ref b)] := hl
  refine va_new (D := E.1) (ci := 8) (fs := [.null, .null, .null, .null, .null]) (C := RX9) (T := TX9) (N := 5) hx hb hts inlX9 tyX9 tyX9_ok hown (hts (.classLink RL 8 RX9) (by decide +kernel)) (hts (.instantiable RX9 5) (by decide +kernel)) (hts (.initialized RX9) (by decide +kernel)) hK.1 hP hD hS hA rfl (fun j hj => by rcases (show j = 0 ∨ j = 1 ∨ j = 2 ∨ j = 3 ∨ j = 4 by omega) with rfl | rfl | rfl | rfl | rfl <;> rfl) (Nat.le_of_ble_eq_true rfl) (Nat.le_of_ble_eq_true rfl) dL_law_0 (fun q0 H hP hD hS => ?_)
  have hP : va_P E.1 vwCl ([[(q0, .inr (8, [.null, .null, .null, .null, .null]))]] : List va_W).flatten H := hP
  have hD : va_D (fun q : Nat => s.heap.size ≤ q) ([[(q0, .inr (8, [.null, .null, .null, .null, .null]))]] : List va_W).flatten := hD
  refine W.widen (k := 1) (n := 5) (by decide) (by decide) ?_
  refine lv_dup hx hb dL_law_3 rfl ?_
  have hPc : va_P E.1 vwCl ([[(q0, .inr (8, [.null, .null, .null, .null, .null]))]] : List va_W).flatten H := zf_sub hP [0] rfl
  have hDc : va_D (fun q : Nat => s.heap.size ≤ q) ([[(q0, .inr (8, [.null, .null, .null, .null, .null]))]] : List va_W).flatten := zf_subD hD [0] (by decide) rfl
  refine z_mutx (Sc := [[(q0, .inr (8, [.null, .null, .null, .null, .null]))]]) (Sr := []) (va_runI (As := []) (rest := [.ref q0]) ⟨hx, hb, hml, hown, hts⟩ (c_X9_init2 l E q0 H.size) (cwI 0 hts gL_law_X9_init rfl rfl rfl (hts (.initialized RX9) (by decide +kernel)) (hts (.methodLink RL 72 yX9_init) (by decide +kernel)) (hts (.instanceMethod yX9_init) (by decide +kernel)) rfl (by decide +kernel) ⟨Nat.le_of_ble_eq_true rfl, Nat.le_of_ble_eq_true rfl⟩) ⟨zP.blind, z_pre hK hPc hDc⟩ rfl rfl hl.1 rfl (lv_room (Nat.le_of_ble_eq_true rfl)) dL_law_4 ⟨Nat.le_of_ble_eq_true rfl, Nat.le_of_ble_eq_true rfl⟩) hP hD hS hA [0] [] rfl rfl (by decide) (by decide) (fun u H locs hP hD hS => ?_)
  have hP : va_P E.1 vwCl ([(z_W E (z_xa q0 (u.1 1) (u.1 2) (u.1 3) (u.1 4) (u.1 5) (u.1 6)) u.2.1 u.2.2.1 u.2.2.2.1 u.2.2.2.2 (fun _ => 0) 0 0 0 0 0 m_g0 m_g0 m_g0 (fun _ => m_g0)).flatten] : List va_W).flatten H := hP
  have hD : va_D (fun q : Nat => s.heap.size ≤ q) ([(z_W E (z_xa q0 (u.1 1) (u.1 2) (u.1 3) (u.1 4) (u.1 5) (u.1 6)) u.2.1 u.2.2.1 u.2.2.2.1 u.2.2.2.2 (fun _ => 0) 0 0 0 0 0 m_g0 m_g0 m_g0 (fun _ => m_g0)).flatten] : List va_W).flatten := hD
  refine W.widen (k := 79) (n := 1097) (by decide) (by decide) ?_
  obtain ⟨xa, exa⟩ : ∃ z : Nat → Nat, z = (z_xa q0 (u.1 1) (u.1 2) (u.1 3) (u.1 4) (u.1 5) (u.1 6)) := ⟨_, rfl⟩
  have eq0 : q0 = xa 0 := by rw [exa]; rfl
  subst eq0
  rw [← exa] at hP hD
  clear exa
  refine W.eq (g2 := F0 m 7 ls [.ref (xa 0)]) rfl ?_
  refine lv_astore_n (lv' := [(1, .ref (xa 0)), (0, .ref b)]) hx hb dL_law_7 rfl hl (by decide) rfl (fun ls hl => ?_)
  refine va_new (D := E.1) (ci := 9) (fs := [.int 0, .null, .int 0, .null, .null, .int 0, .int 0, .int 0, .int 0, .int 0, .long 0]) (C := RX10) (T := TX10) (N := 11) hx hb hts inlX10 tyX10 tyX10_ok hown (hts (.classLink RL 73 RX10) (by decide +kernel)) (hts (.instantiable RX10 11) (by decide +kernel)) (hts (.initialized RX10) (by decide +kernel)) hK.1 hP hD hS hA rfl (fun j hj => by rcases (show j = 0 ∨ j = 1 ∨ j = 2 ∨ j = 3 ∨ j = 4 ∨ j = 5 ∨ j = 6 ∨ j = 7 ∨ j = 8 ∨ j = 9 ∨ j = 10 by omega) with rfl | rfl | rfl | rfl | rfl | rfl | rfl | rfl | rfl | rfl | rfl <;> rfl) (Nat.le_of_ble_eq_true rfl) (Nat.le_of_ble_eq_true rfl) dL_law_8 (fun q1 H hP hD hS => ?_)
  have hP := zf_snoc hP
  have hD := zf_snocD hD
  have hP : va_P E.1 vwCl ([(z_W E xa u.2.1 u.2.2.1 u.2.2.2.1 u.2.2.2.2 (fun _ => 0) 0 0 0 0 0 m_g0 m_g0 m_g0 (fun _ => m_g0)).flatten, [(q1, .inr (9, [.int 0, .null, .int 0, .null, .null, .int 0, .int 0, .int 0, .int 0, .int 0, .long 0]))]] : List va_W).flatten H := hP
  have hD : va_D (fun q : Nat => s.heap.size ≤ q) ([(z_W E xa u.2.1 u.2.2.1 u.2.2.2.1 u.2.2.2.2 (fun _ => 0) 0 0 0 0 0 m_g0 m_g0 m_g0 (fun _ => m_g0)).flatten, [(q1, .inr (9, [.int 0, .null, .int 0, .null, .null, .int 0, .int 0, .int 0, .int 0, .int 0, .long 0]))]] : List va_W).flatten := hD
  refine W.widen (k := 80) (n := 1108) (by decide) (by decide) ?_
  refine lv_dup hx hb dL_law_11 rfl ?_
  have hPc : va_P E.1 vwCl ([[(q1, .inr (9, [.int 0, .null, .int 0, .null, .null, .int 0, .int 0, .int 0, .int 0, .int 0, .long 0]))]] : List va_W).flatten H := zf_sub hP [1] rfl
  have hDc : va_D (fun q : Nat => s.heap.size ≤ q) ([[(q1, .inr (9, [.int 0, .null, .int 0, .null, .null, .int 0, .int 0, .int 0, .int 0, .int 0, .long 0]))]] : List va_W).flatten := zf_subD hD [1] (by decide) rfl
  refine z_mutx (Sc := [[(q1, .inr (9, [.int 0, .null, .int 0, .null, .null, .int 0, .int 0, .int 0, .int 0, .int 0, .long 0]))]]) (Sr := [(z_W E xa u.2.1 u.2.2.1 u.2.2.2.1 u.2.2.2.2 (fun _ => 0) 0 0 0 0 0 m_g0 m_g0 m_g0 (fun _ => m_g0)).flatten]) (va_runI (As := []) (rest := [.ref q1]) ⟨hx, hb, hml, hown, hts⟩ (c_X10_init l E q1 H.size) (cwI 0 hts gL_law_X10_init rfl rfl rfl (hts (.initialized RX10) (by decide +kernel)) (hts (.methodLink RL 75 yX10_init) (by decide +kernel)) (hts (.instanceMethod yX10_init) (by decide +kernel)) rfl (by decide +kernel) ⟨Nat.le_of_ble_eq_true rfl, Nat.le_of_ble_eq_true rfl⟩) ⟨zP.blind, z_pre hK hPc hDc⟩ rfl rfl hl.1 rfl (lv_room (Nat.le_of_ble_eq_true rfl)) dL_law_12 ⟨Nat.le_of_ble_eq_true rfl, Nat.le_of_ble_eq_true rfl⟩) hP hD hS hA [1] [0] rfl rfl (by decide) (by decide) (fun ⟨k1, k2, k3⟩ H locs hP hD hS => ?_)
  have hP : va_P E.1 vwCl ([(z_W E xa u.2.1 u.2.2.1 u.2.2.2.1 u.2.2.2.2 (fun _ => 0) 0 0 0 0 0 m_g0 m_g0 m_g0 (fun _ => m_g0)).flatten, [(q1, .inr (9, [.int 0, .ref k1, .int 0, .ref k2, .ref k3, .int 0, .int 0, .int 0, .int 0, .int 0, .long 0]))], [(k1, .inl (E.2 0, 1160, .inl m_s0))], [(k2, .inl (E.2 1, 2, .inl (fun _ => 0)))], [(k3, .inl (E.2 0, 60, .inl (fun _ => 0)))]] : List va_W).flatten H := hP
  have hD : va_D (fun q : Nat => s.heap.size ≤ q) ([(z_W E xa u.2.1 u.2.2.1 u.2.2.2.1 u.2.2.2.2 (fun _ => 0) 0 0 0 0 0 m_g0 m_g0 m_g0 (fun _ => m_g0)).flatten, [(q1, .inr (9, [.int 0, .ref k1, .int 0, .ref k2, .ref k3, .int 0, .int 0, .int 0, .int 0, .int 0, .long 0]))], [(k1, .inl (E.2 0, 1160, .inl m_s0))], [(k2, .inl (E.2 1, 2, .inl (fun _ => 0)))], [(k3, .inl (E.2 0, 60, .inl (fun _ => 0)))]] : List va_W).flatten := hD
  refine W.widen (k := 83) (n := 2330) (by decide) (by decide) ?_
  refine W.eq (g2 := F0 m 15 ls [.ref q1]) rfl ?_
  refine lv_astore_n (lv' := [(2, .ref q1), (1, .ref (xa 0)), (0, .ref b)]) hx hb dL_law_15 rfl hl (by decide) rfl (fun ls hl => ?_)
  refine lv_iconst (v := 1) hx hb dL_law_16 (by decide) ?_
  refine va_newa (D := E.1) (atype := .long) (ty := .long) (N' := 1) (a0 := (1, .inr (.inl (fun _ => 0)))) hx hb (hts (.arrayClass .long) (by decide +kernel)) rfl hK.1 hP hD hS hA (fun _ => rfl) (by decide) (by decide +kernel) (by decide +kernel) (Nat.le_of_ble_eq_true rfl) (Nat.le_of_ble_eq_true rfl) dL_law_17 (fun q2 cA H hK9 hP hD hS => ?_)
  have eA := z_cy3 hK9
  subst eA
  have hP := zf_snoc hP
  have hD := zf_snocD hD
  have hP : va_P E.1 vwCl ([(z_W E xa u.2.1 u.2.2.1 u.2.2.2.1 u.2.2.2.2 (fun _ => 0) 0 0 0 0 0 m_g0 m_g0 m_g0 (fun _ => m_g0)).flatten, [(q1, .inr (9, [.int 0, .ref k1, .int 0, .ref k2, .ref k3, .int 0, .int 0, .int 0, .int 0, .int 0, .long 0]))], [(k1, .inl (E.2 0, 1160, .inl m_s0))], [(k2, .inl (E.2 1, 2, .inl (fun _ => 0)))], [(k3, .inl (E.2 0, 60, .inl (fun _ => 0)))], [(q2, .inl (E.2 3, 1, .inr (.inl (fun _ => 0))))]] : List va_W).flatten H := hP
  have hD : va_D (fun q : Nat => s.heap.size ≤ q) ([(z_W E xa u.2.1 u.2.2.1 u.2.2.2.1 u.2.2.2.2 (fun _ => 0) 0 0 0 0 0 m_g0 m_g0 m_g0 (fun _ => m_g0)).flatten, [(q1, .inr (9, [.int 0, .ref k1, .int 0, .ref k2, .ref k3, .int 0, .int 0, .int 0, .int 0, .int 0, .long 0]))], [(k1, .inl (E.2 0, 1160, .inl m_s0))], [(k2, .inl (E.2 1, 2, .inl (fun _ => 0)))], [(k3, .inl (E.2 0, 60, .inl (fun _ => 0)))], [(q2, .inl (E.2 3, 1, .inr (.inl (fun _ => 0))))]] : List va_W).flatten := hD
  refine W.widen (k := 84) (n := 2331) (by decide) (by decide) ?_
  refine lv_astore_n (lv' := [(3, .ref q2), (2, .ref q1), (1, .ref (xa 0)), (0, .ref b)]) hx hb dL_law_19 rfl hl (by decide) rfl (fun ls hl => ?_)
  refine lv_iconst (v := 0) hx hb dL_law_20 (by decide) ?_
  refine lv_istore (lv' := [(4, .int 0), (3, .ref q2), (2, .ref q1), (1, .ref (xa 0)), (0, .ref b)]) hx hb dL_law_21 hl (by decide) rfl (fun ls hl => ?_)
  exact law_loop sa hl0 hr hlocks C (L + 1) 0 (by omega) (Nat.zero_le _) _ _ _ _ _ _ _ _ _ _ _ _ _ _ _ _ _ _ _ _ _ H locs ls q_start hP hD hS (lv_sub hl [4, 3, 2, 1, 0] rfl)
