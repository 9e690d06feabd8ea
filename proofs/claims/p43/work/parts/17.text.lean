set_option maxHeartbeats 4000000 in
set_option maxRecDepth 100000 in
theorem c_X7_init (l : Launch) (E : zE) (h0 : Nat) (l0 : Int32) : zX l yX7_init wsX7_init ({ frames := 1, cells := 1, slots := 60, locals := 20 }) E [.ref h0] ([[(h0, .inr (6, [.null, .int l0]))]] : List va_W).flatten none (fun u : Nat => ([[(h0, .inr (6, [.ref u, .int l0]))], [(u, .inl (E.2 0, 60, .inl (fun _ => 0)))]] : List va_W).flatten) 1 60 := by
  refine z_startx (cc := cX7_init) (maxL := 1) (ret := none) (by decide) rfl (Nat.le_of_ble_eq_true rfl) ?_
  intro Pg En s Mi below meth Cd A hx hb hr hts hown hlocks hin hml hA H hH hP hK hD hS ls hl
  have hl : lv_has ls 1 [(0, .ref h0)] := hl
  have hi_X7 : ∀ w ∈ wsX70, w ∈ wsX7_init := by decide +kernel
  refine lv_aload_n hx hb dX7_init_0 rfl (lv_at hl 0 rfl) ?_
  refine W.objInit hx hb hown (hts (.methodLink RX7 3 objectInit) (by decide +kernel)) (hts (.instanceMethod objectInit) (by decide +kernel)) (hts (.code objectInit ⟨#[0xb1]⟩ 1 none) (by decide +kernel)) rfl (by rw [hml]; exact hl.1) rfl dX7_init_1 (Nat.le_of_ble_eq_true rfl) (Nat.le_of_ble_eq_true rfl) ?_
  refine W.eq (g2 := F0 Mi 4 ls []) rfl ?_
  refine lv_aload_n hx hb dX7_init_4 rfl (lv_at hl 0 rfl) ?_
  refine lv_bipush (v := 60) hx hb dX7_init_5 (by decide) ?_
  refine va_newa (D := E.1) (atype := .int) (ty := .int) (N' := 60) (a0 := (60, .inl (fun _ => 0))) hx hb (hts (.arrayClass .int) (by decide +kernel)) rfl hK.1 hP hD hS hA (fun _ => rfl) (by decide) (by decide +kernel) (by decide +kernel) (Nat.le_of_ble_eq_true rfl) (Nat.le_of_ble_eq_true rfl) dX7_init_7 (fun q_7 cA H hK9 hP hD hS => ?_)
  have eA := z_cy0 hK9
  subst eA
  have hP : va_P E.1 vwCl ([[(h0, .inr (6, [.null, .int l0]))], [(q_7, .inl (E.2 0, 60, .inl (fun _ => 0)))]] : List va_W).flatten H := hP
  have hD : va_D A ([[(h0, .inr (6, [.null, .int l0]))], [(q_7, .inl (E.2 0, 60, .inl (fun _ => 0)))]] : List va_W).flatten := hD
  refine W.widen (k := 1) (n := 60) (by decide) (by decide) ?_
  refine va_putF (D := E.1) (ci := 6) (v := .ref q_7) (ty := .array .int) (C := RX7) (T := TX7) (N := 2) hx hb hts hi_X7 tyX7 tyX7_ok nmX7 hown hK.1 hP hD hS 0 rfl rfl 0 (by decide) (hts (.fieldLink RX7 9 "AltimeterWatch$TripText" "codes" "[I") (by decide +kernel)) (fun _ h9 => h9) rfl hin rfl (by decide +kernel) rfl rfl (Nat.le_of_ble_eq_true rfl) dX7_init_9 (fun H locs hP hD hS => ?_)
  have hP : va_P E.1 vwCl ([[(h0, .inr (6, [.ref q_7, .int l0]))], [(q_7, .inl (E.2 0, 60, .inl (fun _ => 0)))]] : List va_W).flatten H := hP
  have hD : va_D A ([[(h0, .inr (6, [.ref q_7, .int l0]))], [(q_7, .inl (E.2 0, 60, .inl (fun _ => 0)))]] : List va_W).flatten := hD
  have hP : va_P E.1 vwCl ([[(h0, .inr (6, [.ref q_7, .int l0]))], [(q_7, .inl (E.2 0, 60, .inl (fun _ => 0)))]] : List va_W).flatten H := zf_sub hP [0, 1] rfl
  have hD : va_D A ([[(h0, .inr (6, [.ref q_7, .int l0]))], [(q_7, .inl (E.2 0, 60, .inl (fun _ => 0)))]] : List va_W).flatten := zf_subD hD [0, 1] (by decide) rfl
  exact W.vret hx hb hr (z_endx (w1 := (fun u : Nat => ([[(h0, .inr (6, [.ref u, .int l0]))], [(u, .inl (E.2 0, 60, .inl (fun _ => 0)))]] : List va_W).flatten)) q_7 hP hD hS rfl) hS.2.2 dX7_init_12 hlocks

