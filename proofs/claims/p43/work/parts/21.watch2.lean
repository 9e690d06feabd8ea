set_option maxHeartbeats 4000000 in
set_option maxRecDepth 100000 in
theorem c_X9_memoryOf0 (l : Launch) (E : zE) (x0 k0 k1 k2 k3 k4 : Nat) (x : Int32) (hi : x = 0) : zR l yX9_memoryOf wsX9_memoryOf ({ frames := 0, cells := 0, slots := 0, locals := 0 }) E [.ref x0, .int x] ([[(x0, .inr (8, [.ref k0, .ref k1, .ref k2, .ref k3, .ref k4]))]] : List va_W).flatten (some (.ref k2)) := by
  refine z_startr (cc := cX9_memoryOf) (maxL := 2) (ret := (some (.object "AltimeterWatch$Memory"))) (by decide) rfl (Nat.le_of_ble_eq_true rfl) ?_
  intro Pg En s Mi below meth Cd hx hb hr hts hown hlocks hml hP hK ls hl
  have hl : lv_has ls 2 [(0, .ref x0), (1, .int x)] := hl
  have hi_X9 : ∀ w ∈ wsX90, w ∈ wsX9_memoryOf := by decide +kernel
  refine lv_iload_n hx hb dX9_memoryOf_0 rfl (lv_at hl 1 rfl) ?_
  refine lv_if_ne (tgt := 11) hx hb dX9_memoryOf_1 (by decide) (fun h9 => absurd h9 ((fun h9 => h9 hi))) (fun _ => ?_)
  refine lv_aload_n hx hb dX9_memoryOf_4 rfl (lv_at hl 0 rfl) ?_
  refine va_get (D := E.1) (ci := 8) (v := .ref k2) (C := RX9) (T := TX9) (N := 5) hx hb hts hi_X9 hown hK.1 hP 0 rfl rfl 2 (by decide) (hts (.fieldLink RX9 26 "AltimeterWatch" "memory0" "LAltimeterWatch$Memory;") (by decide +kernel)) (fun _ h9 => h9) rfl dX9_memoryOf_5 ?_
  refine lv_goto (tgt := 15) hx hb dX9_memoryOf_8 (by decide) ?_
  exact W.aret (v := .ref k2) hx hb hr (Or.inl ⟨_, rfl⟩) (Or.inr ⟨_, rfl⟩) z_endR (fun _ h => by cases h) dX9_memoryOf_15 hlocks

set_option maxHeartbeats 4000000 in
set_option maxRecDepth 100000 in
theorem c_X9_memoryOf1 (l : Launch) (E : zE) (x0 k0 k1 k2 k3 k4 : Nat) (x : Int32) (hi : ¬ x = 0) : zR l yX9_memoryOf wsX9_memoryOf ({ frames := 0, cells := 0, slots := 0, locals := 0 }) E [.ref x0, .int x] ([[(x0, .inr (8, [.ref k0, .ref k1, .ref k2, .ref k3, .ref k4]))]] : List va_W).flatten (some (.ref k3)) := by
  refine z_startr (cc := cX9_memoryOf) (maxL := 2) (ret := (some (.object "AltimeterWatch$Memory"))) (by decide) rfl (Nat.le_of_ble_eq_true rfl) ?_
  intro Pg En s Mi below meth Cd hx hb hr hts hown hlocks hml hP hK ls hl
  have hl : lv_has ls 2 [(0, .ref x0), (1, .int x)] := hl
  have hi_X9 : ∀ w ∈ wsX90, w ∈ wsX9_memoryOf := by decide +kernel
  refine lv_iload_n hx hb dX9_memoryOf_0 rfl (lv_at hl 1 rfl) ?_
  refine lv_if_ne (tgt := 11) hx hb dX9_memoryOf_1 (by decide) (fun _ => ?_) (fun h9 => absurd h9 (hi))
  refine lv_aload_n hx hb dX9_memoryOf_11 rfl (lv_at hl 0 rfl) ?_
  refine va_get (D := E.1) (ci := 8) (v := .ref k3) (C := RX9) (T := TX9) (N := 5) hx hb hts hi_X9 hown hK.1 hP 0 rfl rfl 3 (by decide) (hts (.fieldLink RX9 30 "AltimeterWatch" "memory1" "LAltimeterWatch$Memory;") (by decide +kernel)) (fun _ h9 => h9) rfl dX9_memoryOf_12 ?_
  exact W.aret (v := .ref k3) hx hb hr (Or.inl ⟨_, rfl⟩) (Or.inr ⟨_, rfl⟩) z_endR (fun _ h => by cases h) dX9_memoryOf_15 hlocks

set_option maxHeartbeats 4000000 in
set_option maxRecDepth 100000 in
theorem c_X9_mixed (l : Launch) (E : zE) (h : Int64) (x : Int32) : zR l yX9_mixed wsX9_mixed ({ frames := 0, cells := 0, slots := 0, locals := 0 }) E [.long h, .int x] [] (some (.long (m_mix h x))) := by
  refine z_startr (cc := cX9_mixed) (maxL := 3) (ret := (some .long)) (by decide) rfl (Nat.le_of_ble_eq_true rfl) ?_
  intro Pg En s Mi below meth Cd hx hb hr hts hown hlocks hml hP hK ls hl
  have hl : lv_has ls 3 [(0, .long h), (2, .int x)] := hl
  refine lv_ldc2 hx hb hown (hts (.constantLong RX9 259 (31)) (by decide +kernel)) dX9_mixed_0 ?_
  refine lv_lload_n hx hb dX9_mixed_3 rfl (lv_at hl 0 rfl) ?_
  refine lv_lmul hx hb dX9_mixed_4 ?_
  refine lv_iload_n hx hb dX9_mixed_5 rfl (lv_at hl 1 rfl) ?_
  refine lv_i2l hx hb dX9_mixed_6 rfl ?_
  refine lv_ladd hx hb dX9_mixed_7 ?_
  refine z_topl (y := m_mix h x) rfl ?_
  exact W.lret (v := m_mix h x) hx hb hr z_endR (fun _ h => by cases h) dX9_mixed_8 hlocks

set_option maxHeartbeats 4000000 in
set_option maxRecDepth 100000 in
theorem c_X9_hashOfReadings (l : Launch) (E : zE) (x0 k1 k2 k3 k4 : Nat) (na : Nat → Nat) (g : Nat → Int32) (h : Int64) (hg : z_ok g) : zR l yX9_hashOfReadings wsX9_hashOfReadings ({ frames := 4, cells := 0, slots := 0, locals := 84 }) E [.ref x0, .long h] ([[(x0, .inr (8, [.ref (na 0), .ref k1, .ref k2, .ref k3, .ref k4]))], z_St E na g] : List va_W).flatten (some (.long (m_hr g h))) := by
  refine z_startr (cc := cX9_hashOfReadings) (maxL := 5) (ret := (some .long)) (by decide) rfl (Nat.le_of_ble_eq_true rfl) ?_
  intro Pg En s Mi below meth Cd hx hb hr hts hown hlocks hml hP hK ls hl
  have hl : lv_has ls 5 [(0, .ref x0), (1, .long h)] := hl
  have hi_X1 : ∀ w ∈ wsX10, w ∈ wsX9_hashOfReadings := by decide +kernel
  have hi_X5 : ∀ w ∈ wsX50, w ∈ wsX9_hashOfReadings := by decide +kernel
  have hi_X8 : ∀ w ∈ wsX80, w ∈ wsX9_hashOfReadings := by decide +kernel
  have hi_X9 : ∀ w ∈ wsX90, w ∈ wsX9_hashOfReadings := by decide +kernel
  refine lv_lload_n hx hb dX9_hashOfReadings_0 rfl (lv_at hl 1 rfl) ?_
  refine lv_aload_n hx hb dX9_hashOfReadings_1 rfl (lv_at hl 0 rfl) ?_
  refine va_get (D := E.1) (ci := 8) (v := .ref (na 0)) (C := RX9) (T := TX9) (N := 5) hx hb hts hi_X9 hown hK.1 hP 0 rfl rfl 0 (by decide) (hts (.fieldLink RX9 10 "AltimeterWatch" "now" "LAltimeterWatch$State;") (by decide +kernel)) (fun _ h9 => h9) rfl dX9_hashOfReadings_2 ?_
  refine va_get (D := E.1) (ci := 4) (v := .int (g 2)) (C := RX5) (T := TX5) (N := 10) hx hb hts hi_X5 hown hK.1 hP 1 rfl rfl 0 (by decide) (hts (.fieldLink RX9 56 "AltimeterWatch$State" "station" "Z") (by decide +kernel)) (fun _ h9 => h9) rfl dX9_hashOfReadings_5 ?_
  refine lv_if_eq (tgt := 15) hx hb dX9_hashOfReadings_8 (by decide) (fun c_8 => ?_) (fun c_8 => ?_)
  · refine lv_iconst (v := 0) hx hb dX9_hashOfReadings_15 (by decide) ?_
    refine z_topi (y := g 2) c_8.symm ?_
    refine z_rdv (va_runS (As := [.long h, .int (g 2)]) (rest := []) ⟨hx, hb, hml, hown, hts⟩ (c_X9_mixed l E h (g 2)) (va_cwS 2 hts gX9_hashOfReadings_X9_mixed rfl rfl rfl (by decide +kernel) ⟨Nat.le_of_ble_eq_true rfl, Nat.le_of_ble_eq_true rfl⟩) ⟨zPr.blind, z_prer hK zP_nil⟩ rfl rfl hl.1 rfl (lv_room (Nat.le_of_ble_eq_true rfl)) dX9_hashOfReadings_16 ⟨Nat.le_of_ble_eq_true rfl, Nat.le_of_ble_eq_true rfl⟩) ?_
    refine W.eq (g2 := F0 Mi 19 ls [.long (m_mix h (g 2))]) rfl ?_
    refine lv_topl (fun f_1 ef_1 => ?_)
    refine lv_lstore_n (lv' := [(3, .long f_1), (0, .ref x0), (1, .long h)]) hx hb dX9_hashOfReadings_19 rfl hl (by decide) rfl (fun ls hl => ?_)
    refine lv_lload_n hx hb dX9_hashOfReadings_20 rfl (lv_at hl 0 rfl) ?_
    refine lv_aload_n hx hb dX9_hashOfReadings_21 rfl (lv_at hl 1 rfl) ?_
    refine va_get (D := E.1) (ci := 8) (v := .ref (na 0)) (C := RX9) (T := TX9) (N := 5) hx hb hts hi_X9 hown hK.1 hP 0 rfl rfl 0 (by decide) (hts (.fieldLink RX9 10 "AltimeterWatch" "now" "LAltimeterWatch$State;") (by decide +kernel)) (fun _ h9 => h9) rfl dX9_hashOfReadings_22 ?_
    refine va_get (D := E.1) (ci := 4) (v := .int (g 0)) (C := RX5) (T := TX5) (N := 10) hx hb hts hi_X5 hown hK.1 hP 1 rfl rfl 2 (by decide) (hts (.fieldLink RX9 64 "AltimeterWatch$State" "pressure" "I") (by decide +kernel)) (fun _ h9 => h9) rfl dX9_hashOfReadings_25 ?_
    refine z_rdv (va_runS (As := [.long f_1, .int (g 0)]) (rest := []) ⟨hx, hb, hml, hown, hts⟩ (c_X9_mixed l E f_1 (g 0)) (va_cwS 2 hts gX9_hashOfReadings_X9_mixed rfl rfl rfl (by decide +kernel) ⟨Nat.le_of_ble_eq_true rfl, Nat.le_of_ble_eq_true rfl⟩) ⟨zPr.blind, z_prer hK zP_nil⟩ rfl rfl hl.1 rfl (lv_room (Nat.le_of_ble_eq_true rfl)) dX9_hashOfReadings_28 ⟨Nat.le_of_ble_eq_true rfl, Nat.le_of_ble_eq_true rfl⟩) ?_
    refine W.eq (g2 := F0 Mi 31 ls [.long (m_mix f_1 (g 0))]) rfl ?_
    refine lv_topl (fun f_2 ef_2 => ?_)
    refine lv_lstore_n (lv' := [(3, .long f_2), (0, .ref x0), (1, .long h)]) hx hb dX9_hashOfReadings_31 rfl hl (by decide) rfl (fun ls hl => ?_)
    refine lv_lload_n hx hb dX9_hashOfReadings_32 rfl (lv_at hl 0 rfl) ?_
    refine lv_aload_n hx hb dX9_hashOfReadings_33 rfl (lv_at hl 1 rfl) ?_
    refine va_get (D := E.1) (ci := 8) (v := .ref (na 0)) (C := RX9) (T := TX9) (N := 5) hx hb hts hi_X9 hown hK.1 hP 0 rfl rfl 0 (by decide) (hts (.fieldLink RX9 10 "AltimeterWatch" "now" "LAltimeterWatch$State;") (by decide +kernel)) (fun _ h9 => h9) rfl dX9_hashOfReadings_34 ?_
    have hPc : va_P E.1 vwCl ([z_St E na g] : List va_W).flatten s.heap := zf_sub hP [1] rfl
    refine z_rdv (va_runV (As := []) (rest := [.long f_2]) ⟨hx, hb, hml, hown, hts⟩ (c_X5_heightS l E na g) (cwV 0 hts gX9_hashOfReadings_X5_height rfl rfl rfl (by decide +kernel) ⟨Nat.le_of_ble_eq_true rfl, Nat.le_of_ble_eq_true rfl⟩) ⟨zPr.blind, va_recv hK.1 hPc (ci := 4) (q0 := 0) rfl rfl, z_prer hK hPc⟩ rfl rfl hl.1 rfl (lv_room (Nat.le_of_ble_eq_true rfl)) dX9_hashOfReadings_37 ⟨Nat.le_of_ble_eq_true rfl, Nat.le_of_ble_eq_true rfl⟩) ?_
    refine W.eq (g2 := F0 Mi 40 ls [.int (m_std (g 0) - m_std (g 1)), .long f_2]) rfl ?_
    refine z_rdv (va_runS (As := [.long f_2, .int (m_std (g 0) - m_std (g 1))]) (rest := []) ⟨hx, hb, hml, hown, hts⟩ (c_X9_mixed l E f_2 (m_std (g 0) - m_std (g 1))) (va_cwS 2 hts gX9_hashOfReadings_X9_mixed rfl rfl rfl (by decide +kernel) ⟨Nat.le_of_ble_eq_true rfl, Nat.le_of_ble_eq_true rfl⟩) ⟨zPr.blind, z_prer hK zP_nil⟩ rfl rfl hl.1 rfl (lv_room (Nat.le_of_ble_eq_true rfl)) dX9_hashOfReadings_40 ⟨Nat.le_of_ble_eq_true rfl, Nat.le_of_ble_eq_true rfl⟩) ?_
    refine W.eq (g2 := F0 Mi 43 ls [.long (m_mix f_2 (m_std (g 0) - m_std (g 1)))]) rfl ?_
    refine lv_topl (fun f_3 ef_3 => ?_)
    refine lv_lstore_n (lv' := [(3, .long f_3), (0, .ref x0), (1, .long h)]) hx hb dX9_hashOfReadings_43 rfl hl (by decide) rfl (fun ls hl => ?_)
    refine lv_lload_n hx hb dX9_hashOfReadings_44 rfl (lv_at hl 0 rfl) ?_
    refine lv_aload_n hx hb dX9_hashOfReadings_45 rfl (lv_at hl 1 rfl) ?_
    refine va_get (D := E.1) (ci := 8) (v := .ref (na 0)) (C := RX9) (T := TX9) (N := 5) hx hb hts hi_X9 hown hK.1 hP 0 rfl rfl 0 (by decide) (hts (.fieldLink RX9 10 "AltimeterWatch" "now" "LAltimeterWatch$State;") (by decide +kernel)) (fun _ h9 => h9) rfl dX9_hashOfReadings_46 ?_
    refine va_get (D := E.1) (ci := 4) (v := .int (g 4)) (C := RX5) (T := TX5) (N := 10) hx hb hts hi_X5 hown hK.1 hP 1 rfl rfl 4 (by decide) (hts (.fieldLink RX9 68 "AltimeterWatch$State" "minutes" "I") (by decide +kernel)) (fun _ h9 => h9) rfl dX9_hashOfReadings_49 ?_
    refine z_rdv (va_runS (As := [.long f_3, .int (g 4)]) (rest := []) ⟨hx, hb, hml, hown, hts⟩ (c_X9_mixed l E f_3 (g 4)) (va_cwS 2 hts gX9_hashOfReadings_X9_mixed rfl rfl rfl (by decide +kernel) ⟨Nat.le_of_ble_eq_true rfl, Nat.le_of_ble_eq_true rfl⟩) ⟨zPr.blind, z_prer hK zP_nil⟩ rfl rfl hl.1 rfl (lv_room (Nat.le_of_ble_eq_true rfl)) dX9_hashOfReadings_52 ⟨Nat.le_of_ble_eq_true rfl, Nat.le_of_ble_eq_true rfl⟩) ?_
    refine W.eq (g2 := F0 Mi 55 ls [.long (m_mix f_3 (g 4))]) rfl ?_
    refine lv_topl (fun f_4 ef_4 => ?_)
    refine lv_lstore_n (lv' := [(3, .long f_4), (0, .ref x0), (1, .long h)]) hx hb dX9_hashOfReadings_55 rfl hl (by decide) rfl (fun ls hl => ?_)
    refine lv_lload_n hx hb dX9_hashOfReadings_56 rfl (lv_at hl 0 rfl) ?_
    refine lv_aload_n hx hb dX9_hashOfReadings_57 rfl (lv_at hl 1 rfl) ?_
    refine va_get (D := E.1) (ci := 8) (v := .ref (na 0)) (C := RX9) (T := TX9) (N := 5) hx hb hts hi_X9 hown hK.1 hP 0 rfl rfl 0 (by decide) (hts (.fieldLink RX9 10 "AltimeterWatch" "now" "LAltimeterWatch$State;") (by decide +kernel)) (fun _ h9 => h9) rfl dX9_hashOfReadings_58 ?_
    refine va_get (D := E.1) (ci := 4) (v := .int (g 1)) (C := RX5) (T := TX5) (N := 10) hx hb hts hi_X5 hown hK.1 hP 1 rfl rfl 3 (by decide) (hts (.fieldLink RX9 77 "AltimeterWatch$State" "sea" "I") (by decide +kernel)) (fun _ h9 => h9) rfl dX9_hashOfReadings_61 ?_
    refine z_rdv (va_runS (As := [.long f_4, .int (g 1)]) (rest := []) ⟨hx, hb, hml, hown, hts⟩ (c_X9_mixed l E f_4 (g 1)) (va_cwS 2 hts gX9_hashOfReadings_X9_mixed rfl rfl rfl (by decide +kernel) ⟨Nat.le_of_ble_eq_true rfl, Nat.le_of_ble_eq_true rfl⟩) ⟨zPr.blind, z_prer hK zP_nil⟩ rfl rfl hl.1 rfl (lv_room (Nat.le_of_ble_eq_true rfl)) dX9_hashOfReadings_64 ⟨Nat.le_of_ble_eq_true rfl, Nat.le_of_ble_eq_true rfl⟩) ?_
    refine W.eq (g2 := F0 Mi 67 ls [.long (m_mix f_4 (g 1))]) rfl ?_
    refine lv_topl (fun f_5 ef_5 => ?_)
    refine lv_lstore_n (lv' := [(3, .long f_5), (0, .ref x0), (1, .long h)]) hx hb dX9_hashOfReadings_67 rfl hl (by decide) rfl (fun ls hl => ?_)
    refine lv_lload_n hx hb dX9_hashOfReadings_68 rfl (lv_at hl 0 rfl) ?_
    refine lv_aload_n hx hb dX9_hashOfReadings_69 rfl (lv_at hl 1 rfl) ?_
    refine va_get (D := E.1) (ci := 8) (v := .ref (na 0)) (C := RX9) (T := TX9) (N := 5) hx hb hts hi_X9 hown hK.1 hP 0 rfl rfl 0 (by decide) (hts (.fieldLink RX9 10 "AltimeterWatch" "now" "LAltimeterWatch$State;") (by decide +kernel)) (fun _ h9 => h9) rfl dX9_hashOfReadings_70 ?_
    refine va_get (D := E.1) (ci := 4) (v := .int (g 5)) (C := RX5) (T := TX5) (N := 10) hx hb hts hi_X5 hown hK.1 hP 1 rfl rfl 5 (by decide) (hts (.fieldLink RX9 88 "AltimeterWatch$State" "drift" "I") (by decide +kernel)) (fun _ h9 => h9) rfl dX9_hashOfReadings_73 ?_
    refine z_rdv (va_runS (As := [.long f_5, .int (g 5)]) (rest := []) ⟨hx, hb, hml, hown, hts⟩ (c_X9_mixed l E f_5 (g 5)) (va_cwS 2 hts gX9_hashOfReadings_X9_mixed rfl rfl rfl (by decide +kernel) ⟨Nat.le_of_ble_eq_true rfl, Nat.le_of_ble_eq_true rfl⟩) ⟨zPr.blind, z_prer hK zP_nil⟩ rfl rfl hl.1 rfl (lv_room (Nat.le_of_ble_eq_true rfl)) dX9_hashOfReadings_76 ⟨Nat.le_of_ble_eq_true rfl, Nat.le_of_ble_eq_true rfl⟩) ?_
    refine W.eq (g2 := F0 Mi 79 ls [.long (m_mix f_5 (g 5))]) rfl ?_
    refine lv_topl (fun f_6 ef_6 => ?_)
    refine lv_lstore_n (lv' := [(3, .long f_6), (0, .ref x0), (1, .long h)]) hx hb dX9_hashOfReadings_79 rfl hl (by decide) rfl (fun ls hl => ?_)
    refine lv_lload_n hx hb dX9_hashOfReadings_80 rfl (lv_at hl 0 rfl) ?_
    refine lv_aload_n hx hb dX9_hashOfReadings_81 rfl (lv_at hl 1 rfl) ?_
    refine va_get (D := E.1) (ci := 8) (v := .ref (na 0)) (C := RX9) (T := TX9) (N := 5) hx hb hts hi_X9 hown hK.1 hP 0 rfl rfl 0 (by decide) (hts (.fieldLink RX9 10 "AltimeterWatch" "now" "LAltimeterWatch$State;") (by decide +kernel)) (fun _ h9 => h9) rfl dX9_hashOfReadings_82 ?_
    refine va_get (D := E.1) (ci := 4) (v := .int (g 6)) (C := RX5) (T := TX5) (N := 10) hx hb hts hi_X5 hown hK.1 hP 1 rfl rfl 6 (by decide) (hts (.fieldLink RX9 91 "AltimeterWatch$State" "calibrations" "I") (by decide +kernel)) (fun _ h9 => h9) rfl dX9_hashOfReadings_85 ?_
    refine z_rdv (va_runS (As := [.long f_6, .int (g 6)]) (rest := []) ⟨hx, hb, hml, hown, hts⟩ (c_X9_mixed l E f_6 (g 6)) (va_cwS 2 hts gX9_hashOfReadings_X9_mixed rfl rfl rfl (by decide +kernel) ⟨Nat.le_of_ble_eq_true rfl, Nat.le_of_ble_eq_true rfl⟩) ⟨zPr.blind, z_prer hK zP_nil⟩ rfl rfl hl.1 rfl (lv_room (Nat.le_of_ble_eq_true rfl)) dX9_hashOfReadings_88 ⟨Nat.le_of_ble_eq_true rfl, Nat.le_of_ble_eq_true rfl⟩) ?_
    refine W.eq (g2 := F0 Mi 91 ls [.long (m_mix f_6 (g 6))]) rfl ?_
    refine lv_topl (fun f_7 ef_7 => ?_)
    refine lv_lstore_n (lv' := [(3, .long f_7), (0, .ref x0), (1, .long h)]) hx hb dX9_hashOfReadings_91 rfl hl (by decide) rfl (fun ls hl => ?_)
    refine lv_lload_n hx hb dX9_hashOfReadings_92 rfl (lv_at hl 0 rfl) ?_
    refine lv_aload_n hx hb dX9_hashOfReadings_93 rfl (lv_at hl 1 rfl) ?_
    refine va_get (D := E.1) (ci := 8) (v := .ref (na 0)) (C := RX9) (T := TX9) (N := 5) hx hb hts hi_X9 hown hK.1 hP 0 rfl rfl 0 (by decide) (hts (.fieldLink RX9 10 "AltimeterWatch" "now" "LAltimeterWatch$State;") (by decide +kernel)) (fun _ h9 => h9) rfl dX9_hashOfReadings_94 ?_
    refine va_get (D := E.1) (ci := 4) (v := .ref (na 1)) (C := RX5) (T := TX5) (N := 10) hx hb hts hi_X5 hown hK.1 hP 1 rfl rfl 7 (by decide) (hts (.fieldLink RX9 94 "AltimeterWatch$State" "climb" "LAltimeterWatch$Climb;") (by decide +kernel)) (fun _ h9 => h9) rfl dX9_hashOfReadings_97 ?_
    refine va_get (D := E.1) (ci := 0) (v := .int (g 7)) (C := RX1) (T := TX1) (N := 4) hx hb hts hi_X1 hown hK.1 hP 2 rfl rfl 1 (by decide) (hts (.fieldLink RX9 103 "AltimeterWatch$Climb" "ascent" "I") (by decide +kernel)) (fun _ h9 => h9) rfl dX9_hashOfReadings_100 ?_
    refine z_rdv (va_runS (As := [.long f_7, .int (g 7)]) (rest := []) ⟨hx, hb, hml, hown, hts⟩ (c_X9_mixed l E f_7 (g 7)) (va_cwS 2 hts gX9_hashOfReadings_X9_mixed rfl rfl rfl (by decide +kernel) ⟨Nat.le_of_ble_eq_true rfl, Nat.le_of_ble_eq_true rfl⟩) ⟨zPr.blind, z_prer hK zP_nil⟩ rfl rfl hl.1 rfl (lv_room (Nat.le_of_ble_eq_true rfl)) dX9_hashOfReadings_103 ⟨Nat.le_of_ble_eq_true rfl, Nat.le_of_ble_eq_true rfl⟩) ?_
    refine W.eq (g2 := F0 Mi 106 ls [.long (m_mix f_7 (g 7))]) rfl ?_
    refine lv_topl (fun f_8 ef_8 => ?_)
    refine lv_lstore_n (lv' := [(3, .long f_8), (0, .ref x0), (1, .long h)]) hx hb dX9_hashOfReadings_106 rfl hl (by decide) rfl (fun ls hl => ?_)
    refine lv_lload_n hx hb dX9_hashOfReadings_107 rfl (lv_at hl 0 rfl) ?_
    refine lv_aload_n hx hb dX9_hashOfReadings_108 rfl (lv_at hl 1 rfl) ?_
    refine va_get (D := E.1) (ci := 8) (v := .ref (na 0)) (C := RX9) (T := TX9) (N := 5) hx hb hts hi_X9 hown hK.1 hP 0 rfl rfl 0 (by decide) (hts (.fieldLink RX9 10 "AltimeterWatch" "now" "LAltimeterWatch$State;") (by decide +kernel)) (fun _ h9 => h9) rfl dX9_hashOfReadings_109 ?_
    refine va_get (D := E.1) (ci := 4) (v := .ref (na 1)) (C := RX5) (T := TX5) (N := 10) hx hb hts hi_X5 hown hK.1 hP 1 rfl rfl 7 (by decide) (hts (.fieldLink RX9 94 "AltimeterWatch$State" "climb" "LAltimeterWatch$Climb;") (by decide +kernel)) (fun _ h9 => h9) rfl dX9_hashOfReadings_112 ?_
    refine va_get (D := E.1) (ci := 0) (v := .int (g 8)) (C := RX1) (T := TX1) (N := 4) hx hb hts hi_X1 hown hK.1 hP 2 rfl rfl 2 (by decide) (hts (.fieldLink RX9 106 "AltimeterWatch$Climb" "descent" "I") (by decide +kernel)) (fun _ h9 => h9) rfl dX9_hashOfReadings_115 ?_
    refine z_rdv (va_runS (As := [.long f_8, .int (g 8)]) (rest := []) ⟨hx, hb, hml, hown, hts⟩ (c_X9_mixed l E f_8 (g 8)) (va_cwS 2 hts gX9_hashOfReadings_X9_mixed rfl rfl rfl (by decide +kernel) ⟨Nat.le_of_ble_eq_true rfl, Nat.le_of_ble_eq_true rfl⟩) ⟨zPr.blind, z_prer hK zP_nil⟩ rfl rfl hl.1 rfl (lv_room (Nat.le_of_ble_eq_true rfl)) dX9_hashOfReadings_118 ⟨Nat.le_of_ble_eq_true rfl, Nat.le_of_ble_eq_true rfl⟩) ?_
    refine W.eq (g2 := F0 Mi 121 ls [.long (m_mix f_8 (g 8))]) rfl ?_
    refine lv_topl (fun f_9 ef_9 => ?_)
    refine lv_lstore_n (lv' := [(3, .long f_9), (0, .ref x0), (1, .long h)]) hx hb dX9_hashOfReadings_121 rfl hl (by decide) rfl (fun ls hl => ?_)
    refine lv_lload_n hx hb dX9_hashOfReadings_122 rfl (lv_at hl 0 rfl) ?_
    refine lv_aload_n hx hb dX9_hashOfReadings_123 rfl (lv_at hl 1 rfl) ?_
    refine va_get (D := E.1) (ci := 8) (v := .ref (na 0)) (C := RX9) (T := TX9) (N := 5) hx hb hts hi_X9 hown hK.1 hP 0 rfl rfl 0 (by decide) (hts (.fieldLink RX9 10 "AltimeterWatch" "now" "LAltimeterWatch$State;") (by decide +kernel)) (fun _ h9 => h9) rfl dX9_hashOfReadings_124 ?_
    refine va_get (D := E.1) (ci := 4) (v := .ref (na 1)) (C := RX5) (T := TX5) (N := 10) hx hb hts hi_X5 hown hK.1 hP 1 rfl rfl 7 (by decide) (hts (.fieldLink RX9 94 "AltimeterWatch$State" "climb" "LAltimeterWatch$Climb;") (by decide +kernel)) (fun _ h9 => h9) rfl dX9_hashOfReadings_127 ?_
    refine va_get (D := E.1) (ci := 0) (v := .int (g 9)) (C := RX1) (T := TX1) (N := 4) hx hb hts hi_X1 hown hK.1 hP 2 rfl rfl 0 (by decide) (hts (.fieldLink RX9 109 "AltimeterWatch$Climb" "base" "I") (by decide +kernel)) (fun _ h9 => h9) rfl dX9_hashOfReadings_130 ?_
    refine z_rdv (va_runS (As := [.long f_9, .int (g 9)]) (rest := []) ⟨hx, hb, hml, hown, hts⟩ (c_X9_mixed l E f_9 (g 9)) (va_cwS 2 hts gX9_hashOfReadings_X9_mixed rfl rfl rfl (by decide +kernel) ⟨Nat.le_of_ble_eq_true rfl, Nat.le_of_ble_eq_true rfl⟩) ⟨zPr.blind, z_prer hK zP_nil⟩ rfl rfl hl.1 rfl (lv_room (Nat.le_of_ble_eq_true rfl)) dX9_hashOfReadings_133 ⟨Nat.le_of_ble_eq_true rfl, Nat.le_of_ble_eq_true rfl⟩) ?_
    refine W.eq (g2 := F0 Mi 136 ls [.long (m_mix f_9 (g 9))]) rfl ?_
    refine lv_topl (fun f_10 ef_10 => ?_)
    refine lv_lstore_n (lv' := [(3, .long f_10), (0, .ref x0), (1, .long h)]) hx hb dX9_hashOfReadings_136 rfl hl (by decide) rfl (fun ls hl => ?_)
    refine lv_lload_n hx hb dX9_hashOfReadings_137 rfl (lv_at hl 0 rfl) ?_
    refine lv_aload_n hx hb dX9_hashOfReadings_138 rfl (lv_at hl 1 rfl) ?_
    refine va_get (D := E.1) (ci := 8) (v := .ref (na 0)) (C := RX9) (T := TX9) (N := 5) hx hb hts hi_X9 hown hK.1 hP 0 rfl rfl 0 (by decide) (hts (.fieldLink RX9 10 "AltimeterWatch" "now" "LAltimeterWatch$State;") (by decide +kernel)) (fun _ h9 => h9) rfl dX9_hashOfReadings_139 ?_
    refine va_get (D := E.1) (ci := 4) (v := .ref (na 2)) (C := RX5) (T := TX5) (N := 10) hx hb hts hi_X5 hown hK.1 hP 1 rfl rfl 8 (by decide) (hts (.fieldLink RX9 136 "AltimeterWatch$State" "weather" "LAltimeterWatch$Weather;") (by decide +kernel)) (fun _ h9 => h9) rfl dX9_hashOfReadings_142 ?_
    refine va_get (D := E.1) (ci := 7) (v := .int (g 14)) (C := RX8) (T := TX8) (N := 5) hx hb hts hi_X8 hown hK.1 hP 3 rfl rfl 1 (by decide) (hts (.fieldLink RX9 145 "AltimeterWatch$Weather" "count" "I") (by decide +kernel)) (fun _ h9 => h9) rfl dX9_hashOfReadings_145 ?_
    refine z_rdv (va_runS (As := [.long f_10, .int (g 14)]) (rest := []) ⟨hx, hb, hml, hown, hts⟩ (c_X9_mixed l E f_10 (g 14)) (va_cwS 2 hts gX9_hashOfReadings_X9_mixed rfl rfl rfl (by decide +kernel) ⟨Nat.le_of_ble_eq_true rfl, Nat.le_of_ble_eq_true rfl⟩) ⟨zPr.blind, z_prer hK zP_nil⟩ rfl rfl hl.1 rfl (lv_room (Nat.le_of_ble_eq_true rfl)) dX9_hashOfReadings_148 ⟨Nat.le_of_ble_eq_true rfl, Nat.le_of_ble_eq_true rfl⟩) ?_
    refine W.eq (g2 := F0 Mi 151 ls [.long (m_mix f_10 (g 14))]) rfl ?_
    refine lv_topl (fun f_11 ef_11 => ?_)
    refine lv_lstore_n (lv' := [(3, .long f_11), (0, .ref x0), (1, .long h)]) hx hb dX9_hashOfReadings_151 rfl hl (by decide) rfl (fun ls hl => ?_)
    refine lv_lload_n hx hb dX9_hashOfReadings_152 rfl (lv_at hl 0 rfl) ?_
    refine lv_aload_n hx hb dX9_hashOfReadings_153 rfl (lv_at hl 1 rfl) ?_
    refine va_get (D := E.1) (ci := 8) (v := .ref (na 0)) (C := RX9) (T := TX9) (N := 5) hx hb hts hi_X9 hown hK.1 hP 0 rfl rfl 0 (by decide) (hts (.fieldLink RX9 10 "AltimeterWatch" "now" "LAltimeterWatch$State;") (by decide +kernel)) (fun _ h9 => h9) rfl dX9_hashOfReadings_154 ?_
    refine va_get (D := E.1) (ci := 4) (v := .ref (na 2)) (C := RX5) (T := TX5) (N := 10) hx hb hts hi_X5 hown hK.1 hP 1 rfl rfl 8 (by decide) (hts (.fieldLink RX9 136 "AltimeterWatch$State" "weather" "LAltimeterWatch$Weather;") (by decide +kernel)) (fun _ h9 => h9) rfl dX9_hashOfReadings_157 ?_
    have hP : va_P E.1 vwCl ([[(x0, .inr (8, [.ref (na 0), .ref k1, .ref k2, .ref k3, .ref k4]))], [((na 0), .inr (4, [.int (g 2), .int (g 3), .int (g 0), .int (g 1), .int (g 4), .int (g 5), .int (g 6), .ref (na 1), .ref (na 2), .ref (na 4)]))], [((na 1), .inr (0, [.int (g 9), .int (g 7), .int (g 8), .int (g 10)]))], [((na 2), .inr (7, [.ref (na 3), .int (g 14), .int (g 11), .int (g 12), .int (g 13)]))], [((na 3), .inl (E.2 0, 60, .inl (z_tr 60 (fun k => g (k + 15)))))], [((na 4), .inr (1, [.ref (na 5), .ref (na 6), .ref (na 7), .int (g 75)]))], [((na 5), .inl (E.2 0, 10, .inl (z_tr 10 (fun k => g (4 * k + 76)))))], [((na 6), .inl (E.2 0, 10, .inl (z_tr 10 (fun k => g (4 * k + 77)))))], [((na 7), .inl (E.2 0, 10, .inl (z_tr 10 (fun k => g (4 * k + 78)))))]] : List va_W).flatten s.heap := hP
    have hPc : va_P E.1 vwCl ([[((na 2), .inr (7, [.ref (na 3), .int (g 14), .int (g 11), .int (g 12), .int (g 13)]))], [((na 3), .inl (E.2 0, 60, .inl (z_tr 60 (fun k => g (k + 15)))))]] : List va_W).flatten s.heap := zf_sub hP [3, 4] rfl
    refine z_rdv (va_runV (As := []) (rest := [.long f_11]) ⟨hx, hb, hml, hown, hts⟩ (c_X8_presentFall l E (na 2) (na 3) (m_n (g 14)) (g 14) (g 11) (g 12) (g 13) (z_tr 60 (fun k => g (k + 15))) hg.1.1 hg.1.2) (cwV 0 hts gX9_hashOfReadings_X8_presentFall rfl rfl rfl (by decide +kernel) ⟨Nat.le_of_ble_eq_true rfl, Nat.le_of_ble_eq_true rfl⟩) ⟨zPr.blind, va_recv hK.1 hPc (ci := 7) (q0 := 0) rfl rfl, z_prer hK hPc⟩ rfl rfl hl.1 rfl (lv_room (Nat.le_of_ble_eq_true rfl)) dX9_hashOfReadings_160 ⟨Nat.le_of_ble_eq_true rfl, Nat.le_of_ble_eq_true rfl⟩) ?_
    refine W.eq (g2 := F0 Mi 163 ls [.int (m_fall (m_n (g 14)) (z_tr 60 (fun k => g (k + 15)))), .long f_11]) rfl ?_
    refine z_rdv (va_runS (As := [.long f_11, .int (m_fall (m_n (g 14)) (z_tr 60 (fun k => g (k + 15))))]) (rest := []) ⟨hx, hb, hml, hown, hts⟩ (c_X9_mixed l E f_11 (m_fall (m_n (g 14)) (z_tr 60 (fun k => g (k + 15))))) (va_cwS 2 hts gX9_hashOfReadings_X9_mixed rfl rfl rfl (by decide +kernel) ⟨Nat.le_of_ble_eq_true rfl, Nat.le_of_ble_eq_true rfl⟩) ⟨zPr.blind, z_prer hK zP_nil⟩ rfl rfl hl.1 rfl (lv_room (Nat.le_of_ble_eq_true rfl)) dX9_hashOfReadings_163 ⟨Nat.le_of_ble_eq_true rfl, Nat.le_of_ble_eq_true rfl⟩) ?_
    refine W.eq (g2 := F0 Mi 166 ls [.long (m_mix f_11 (m_fall (m_n (g 14)) (z_tr 60 (fun k => g (k + 15)))))]) rfl ?_
    refine lv_topl (fun f_12 ef_12 => ?_)
    refine lv_lstore_n (lv' := [(3, .long f_12), (0, .ref x0), (1, .long h)]) hx hb dX9_hashOfReadings_166 rfl hl (by decide) rfl (fun ls hl => ?_)
    refine lv_lload_n hx hb dX9_hashOfReadings_167 rfl (lv_at hl 0 rfl) ?_
    refine lv_aload_n hx hb dX9_hashOfReadings_168 rfl (lv_at hl 1 rfl) ?_
    refine va_get (D := E.1) (ci := 8) (v := .ref (na 0)) (C := RX9) (T := TX9) (N := 5) hx hb hts hi_X9 hown hK.1 hP 0 rfl rfl 0 (by decide) (hts (.fieldLink RX9 10 "AltimeterWatch" "now" "LAltimeterWatch$State;") (by decide +kernel)) (fun _ h9 => h9) rfl dX9_hashOfReadings_169 ?_
    refine va_get (D := E.1) (ci := 4) (v := .ref (na 2)) (C := RX5) (T := TX5) (N := 10) hx hb hts hi_X5 hown hK.1 hP 1 rfl rfl 8 (by decide) (hts (.fieldLink RX9 136 "AltimeterWatch$State" "weather" "LAltimeterWatch$Weather;") (by decide +kernel)) (fun _ h9 => h9) rfl dX9_hashOfReadings_172 ?_
    refine va_get (D := E.1) (ci := 7) (v := .int (g 12)) (C := RX8) (T := TX8) (N := 5) hx hb hts hi_X8 hown hK.1 hP 3 rfl rfl 3 (by decide) (hts (.fieldLink RX9 153 "AltimeterWatch$Weather" "begun" "I") (by decide +kernel)) (fun _ h9 => h9) rfl dX9_hashOfReadings_175 ?_
    refine z_rdv (va_runS (As := [.long f_12, .int (g 12)]) (rest := []) ⟨hx, hb, hml, hown, hts⟩ (c_X9_mixed l E f_12 (g 12)) (va_cwS 2 hts gX9_hashOfReadings_X9_mixed rfl rfl rfl (by decide +kernel) ⟨Nat.le_of_ble_eq_true rfl, Nat.le_of_ble_eq_true rfl⟩) ⟨zPr.blind, z_prer hK zP_nil⟩ rfl rfl hl.1 rfl (lv_room (Nat.le_of_ble_eq_true rfl)) dX9_hashOfReadings_178 ⟨Nat.le_of_ble_eq_true rfl, Nat.le_of_ble_eq_true rfl⟩) ?_
    refine W.eq (g2 := F0 Mi 181 ls [.long (m_mix f_12 (g 12))]) rfl ?_
    refine lv_topl (fun f_13 ef_13 => ?_)
    refine lv_lstore_n (lv' := [(3, .long f_13), (0, .ref x0), (1, .long h)]) hx hb dX9_hashOfReadings_181 rfl hl (by decide) rfl (fun ls hl => ?_)
    refine lv_lload_n hx hb dX9_hashOfReadings_182 rfl (lv_at hl 0 rfl) ?_
    refine lv_aload_n hx hb dX9_hashOfReadings_183 rfl (lv_at hl 1 rfl) ?_
    refine va_get (D := E.1) (ci := 8) (v := .ref (na 0)) (C := RX9) (T := TX9) (N := 5) hx hb hts hi_X9 hown hK.1 hP 0 rfl rfl 0 (by decide) (hts (.fieldLink RX9 10 "AltimeterWatch" "now" "LAltimeterWatch$State;") (by decide +kernel)) (fun _ h9 => h9) rfl dX9_hashOfReadings_184 ?_
    refine va_get (D := E.1) (ci := 4) (v := .ref (na 2)) (C := RX5) (T := TX5) (N := 10) hx hb hts hi_X5 hown hK.1 hP 1 rfl rfl 8 (by decide) (hts (.fieldLink RX9 136 "AltimeterWatch$State" "weather" "LAltimeterWatch$Weather;") (by decide +kernel)) (fun _ h9 => h9) rfl dX9_hashOfReadings_187 ?_
    have hPc : va_P E.1 vwCl ([[((na 2), .inr (7, [.ref (na 3), .int (g 14), .int (g 11), .int (g 12), .int (g 13)]))], [((na 3), .inl (E.2 0, 60, .inl (z_tr 60 (fun k => g (k + 15)))))]] : List va_W).flatten s.heap := zf_sub hP [3, 4] rfl
    refine z_rdv (va_runV (As := []) (rest := [.long f_13]) ⟨hx, hb, hml, hown, hts⟩ (c_X8_hasAlarm l E (na 2) (na 3) (m_n (g 14)) (g 14) (g 11) (g 12) (g 13) (z_tr 60 (fun k => g (k + 15))) hg.1.1 hg.1.2) (cwV 0 hts gX9_hashOfReadings_X8_hasAlarm rfl rfl rfl (by decide +kernel) ⟨Nat.le_of_ble_eq_true rfl, Nat.le_of_ble_eq_true rfl⟩) ⟨zPr.blind, va_recv hK.1 hPc (ci := 7) (q0 := 0) rfl rfl, z_prer hK hPc⟩ rfl rfl hl.1 rfl (lv_room (Nat.le_of_ble_eq_true rfl)) dX9_hashOfReadings_190 ⟨Nat.le_of_ble_eq_true rfl, Nat.le_of_ble_eq_true rfl⟩) ?_
    refine W.eq (g2 := F0 Mi 193 ls [.int (m_al (m_n (g 14)) (z_tr 60 (fun k => g (k + 15))) (g 11)), .long f_13]) rfl ?_
    refine lv_if_eq (tgt := 200) hx hb dX9_hashOfReadings_193 (by decide) (fun c_193 => ?_) (fun c_193 => ?_)
    · refine lv_iconst (v := 0) hx hb dX9_hashOfReadings_200 (by decide) ?_
      refine z_topi (y := (m_al (m_n (g 14)) (m_log g) (g 11))) c_193.symm ?_
      refine z_rdv (va_runS (As := [.long f_13, .int (m_al (m_n (g 14)) (m_log g) (g 11))]) (rest := []) ⟨hx, hb, hml, hown, hts⟩ (c_X9_mixed l E f_13 (m_al (m_n (g 14)) (m_log g) (g 11))) (va_cwS 2 hts gX9_hashOfReadings_X9_mixed rfl rfl rfl (by decide +kernel) ⟨Nat.le_of_ble_eq_true rfl, Nat.le_of_ble_eq_true rfl⟩) ⟨zPr.blind, z_prer hK zP_nil⟩ rfl rfl hl.1 rfl (lv_room (Nat.le_of_ble_eq_true rfl)) dX9_hashOfReadings_201 ⟨Nat.le_of_ble_eq_true rfl, Nat.le_of_ble_eq_true rfl⟩) ?_
      refine W.eq (g2 := F0 Mi 204 ls [.long (m_mix f_13 (m_al (m_n (g 14)) (m_log g) (g 11)))]) rfl ?_
      refine z_topl (y := m_hr g h) (by rw [ef_13, ef_12, ef_11, ef_10, ef_9, ef_8, ef_7, ef_6, ef_5, ef_4, ef_3, ef_2, ef_1]; rfl) ?_
      exact W.lret (v := m_hr g h) hx hb hr z_endR (fun _ h => by cases h) dX9_hashOfReadings_204 hlocks
    · refine lv_iconst (v := 1) hx hb dX9_hashOfReadings_196 (by decide) ?_
      refine lv_goto (tgt := 201) hx hb dX9_hashOfReadings_197 (by decide) ?_
      refine z_topi (y := (m_al (m_n (g 14)) (m_log g) (g 11))) ((m_al01 _ _ _).resolve_left c_193).symm ?_
      refine z_rdv (va_runS (As := [.long f_13, .int (m_al (m_n (g 14)) (m_log g) (g 11))]) (rest := []) ⟨hx, hb, hml, hown, hts⟩ (c_X9_mixed l E f_13 (m_al (m_n (g 14)) (m_log g) (g 11))) (va_cwS 2 hts gX9_hashOfReadings_X9_mixed rfl rfl rfl (by decide +kernel) ⟨Nat.le_of_ble_eq_true rfl, Nat.le_of_ble_eq_true rfl⟩) ⟨zPr.blind, z_prer hK zP_nil⟩ rfl rfl hl.1 rfl (lv_room (Nat.le_of_ble_eq_true rfl)) dX9_hashOfReadings_201 ⟨Nat.le_of_ble_eq_true rfl, Nat.le_of_ble_eq_true rfl⟩) ?_
      refine W.eq (g2 := F0 Mi 204 ls [.long (m_mix f_13 (m_al (m_n (g 14)) (m_log g) (g 11)))]) rfl ?_
      refine z_topl (y := m_hr g h) (by rw [ef_13, ef_12, ef_11, ef_10, ef_9, ef_8, ef_7, ef_6, ef_5, ef_4, ef_3, ef_2, ef_1]; rfl) ?_
      exact W.lret (v := m_hr g h) hx hb hr z_endR (fun _ h => by cases h) dX9_hashOfReadings_204 hlocks
  · refine lv_iconst (v := 1) hx hb dX9_hashOfReadings_11 (by decide) ?_
    refine lv_goto (tgt := 16) hx hb dX9_hashOfReadings_12 (by decide) ?_
    refine z_topi (y := g 2) (hg.2.2.1.resolve_left c_8).symm ?_
    refine z_rdv (va_runS (As := [.long h, .int (g 2)]) (rest := []) ⟨hx, hb, hml, hown, hts⟩ (c_X9_mixed l E h (g 2)) (va_cwS 2 hts gX9_hashOfReadings_X9_mixed rfl rfl rfl (by decide +kernel) ⟨Nat.le_of_ble_eq_true rfl, Nat.le_of_ble_eq_true rfl⟩) ⟨zPr.blind, z_prer hK zP_nil⟩ rfl rfl hl.1 rfl (lv_room (Nat.le_of_ble_eq_true rfl)) dX9_hashOfReadings_16 ⟨Nat.le_of_ble_eq_true rfl, Nat.le_of_ble_eq_true rfl⟩) ?_
    refine W.eq (g2 := F0 Mi 19 ls [.long (m_mix h (g 2))]) rfl ?_
    refine lv_topl (fun f_14 ef_14 => ?_)
    refine lv_lstore_n (lv' := [(3, .long f_14), (0, .ref x0), (1, .long h)]) hx hb dX9_hashOfReadings_19 rfl hl (by decide) rfl (fun ls hl => ?_)
    refine lv_lload_n hx hb dX9_hashOfReadings_20 rfl (lv_at hl 0 rfl) ?_
    refine lv_aload_n hx hb dX9_hashOfReadings_21 rfl (lv_at hl 1 rfl) ?_
    refine va_get (D := E.1) (ci := 8) (v := .ref (na 0)) (C := RX9) (T := TX9) (N := 5) hx hb hts hi_X9 hown hK.1 hP 0 rfl rfl 0 (by decide) (hts (.fieldLink RX9 10 "AltimeterWatch" "now" "LAltimeterWatch$State;") (by decide +kernel)) (fun _ h9 => h9) rfl dX9_hashOfReadings_22 ?_
    refine va_get (D := E.1) (ci := 4) (v := .int (g 0)) (C := RX5) (T := TX5) (N := 10) hx hb hts hi_X5 hown hK.1 hP 1 rfl rfl 2 (by decide) (hts (.fieldLink RX9 64 "AltimeterWatch$State" "pressure" "I") (by decide +kernel)) (fun _ h9 => h9) rfl dX9_hashOfReadings_25 ?_
    refine z_rdv (va_runS (As := [.long f_14, .int (g 0)]) (rest := []) ⟨hx, hb, hml, hown, hts⟩ (c_X9_mixed l E f_14 (g 0)) (va_cwS 2 hts gX9_hashOfReadings_X9_mixed rfl rfl rfl (by decide +kernel) ⟨Nat.le_of_ble_eq_true rfl, Nat.le_of_ble_eq_true rfl⟩) ⟨zPr.blind, z_prer hK zP_nil⟩ rfl rfl hl.1 rfl (lv_room (Nat.le_of_ble_eq_true rfl)) dX9_hashOfReadings_28 ⟨Nat.le_of_ble_eq_true rfl, Nat.le_of_ble_eq_true rfl⟩) ?_
    refine W.eq (g2 := F0 Mi 31 ls [.long (m_mix f_14 (g 0))]) rfl ?_
    refine lv_topl (fun f_15 ef_15 => ?_)
    refine lv_lstore_n (lv' := [(3, .long f_15), (0, .ref x0), (1, .long h)]) hx hb dX9_hashOfReadings_31 rfl hl (by decide) rfl (fun ls hl => ?_)
    refine lv_lload_n hx hb dX9_hashOfReadings_32 rfl (lv_at hl 0 rfl) ?_
    refine lv_aload_n hx hb dX9_hashOfReadings_33 rfl (lv_at hl 1 rfl) ?_
    refine va_get (D := E.1) (ci := 8) (v := .ref (na 0)) (C := RX9) (T := TX9) (N := 5) hx hb hts hi_X9 hown hK.1 hP 0 rfl rfl 0 (by decide) (hts (.fieldLink RX9 10 "AltimeterWatch" "now" "LAltimeterWatch$State;") (by decide +kernel)) (fun _ h9 => h9) rfl dX9_hashOfReadings_34 ?_
    have hPc : va_P E.1 vwCl ([z_St E na g] : List va_W).flatten s.heap := zf_sub hP [1] rfl
    refine z_rdv (va_runV (As := []) (rest := [.long f_15]) ⟨hx, hb, hml, hown, hts⟩ (c_X5_heightS l E na g) (cwV 0 hts gX9_hashOfReadings_X5_height rfl rfl rfl (by decide +kernel) ⟨Nat.le_of_ble_eq_true rfl, Nat.le_of_ble_eq_true rfl⟩) ⟨zPr.blind, va_recv hK.1 hPc (ci := 4) (q0 := 0) rfl rfl, z_prer hK hPc⟩ rfl rfl hl.1 rfl (lv_room (Nat.le_of_ble_eq_true rfl)) dX9_hashOfReadings_37 ⟨Nat.le_of_ble_eq_true rfl, Nat.le_of_ble_eq_true rfl⟩) ?_
    refine W.eq (g2 := F0 Mi 40 ls [.int (m_std (g 0) - m_std (g 1)), .long f_15]) rfl ?_
    refine z_rdv (va_runS (As := [.long f_15, .int (m_std (g 0) - m_std (g 1))]) (rest := []) ⟨hx, hb, hml, hown, hts⟩ (c_X9_mixed l E f_15 (m_std (g 0) - m_std (g 1))) (va_cwS 2 hts gX9_hashOfReadings_X9_mixed rfl rfl rfl (by decide +kernel) ⟨Nat.le_of_ble_eq_true rfl, Nat.le_of_ble_eq_true rfl⟩) ⟨zPr.blind, z_prer hK zP_nil⟩ rfl rfl hl.1 rfl (lv_room (Nat.le_of_ble_eq_true rfl)) dX9_hashOfReadings_40 ⟨Nat.le_of_ble_eq_true rfl, Nat.le_of_ble_eq_true rfl⟩) ?_
    refine W.eq (g2 := F0 Mi 43 ls [.long (m_mix f_15 (m_std (g 0) - m_std (g 1)))]) rfl ?_
    refine lv_topl (fun f_16 ef_16 => ?_)
    refine lv_lstore_n (lv' := [(3, .long f_16), (0, .ref x0), (1, .long h)]) hx hb dX9_hashOfReadings_43 rfl hl (by decide) rfl (fun ls hl => ?_)
    refine lv_lload_n hx hb dX9_hashOfReadings_44 rfl (lv_at hl 0 rfl) ?_
    refine lv_aload_n hx hb dX9_hashOfReadings_45 rfl (lv_at hl 1 rfl) ?_
    refine va_get (D := E.1) (ci := 8) (v := .ref (na 0)) (C := RX9) (T := TX9) (N := 5) hx hb hts hi_X9 hown hK.1 hP 0 rfl rfl 0 (by decide) (hts (.fieldLink RX9 10 "AltimeterWatch" "now" "LAltimeterWatch$State;") (by decide +kernel)) (fun _ h9 => h9) rfl dX9_hashOfReadings_46 ?_
    refine va_get (D := E.1) (ci := 4) (v := .int (g 4)) (C := RX5) (T := TX5) (N := 10) hx hb hts hi_X5 hown hK.1 hP 1 rfl rfl 4 (by decide) (hts (.fieldLink RX9 68 "AltimeterWatch$State" "minutes" "I") (by decide +kernel)) (fun _ h9 => h9) rfl dX9_hashOfReadings_49 ?_
    refine z_rdv (va_runS (As := [.long f_16, .int (g 4)]) (rest := []) ⟨hx, hb, hml, hown, hts⟩ (c_X9_mixed l E f_16 (g 4)) (va_cwS 2 hts gX9_hashOfReadings_X9_mixed rfl rfl rfl (by decide +kernel) ⟨Nat.le_of_ble_eq_true rfl, Nat.le_of_ble_eq_true rfl⟩) ⟨zPr.blind, z_prer hK zP_nil⟩ rfl rfl hl.1 rfl (lv_room (Nat.le_of_ble_eq_true rfl)) dX9_hashOfReadings_52 ⟨Nat.le_of_ble_eq_true rfl, Nat.le_of_ble_eq_true rfl⟩) ?_
    refine W.eq (g2 := F0 Mi 55 ls [.long (m_mix f_16 (g 4))]) rfl ?_
    refine lv_topl (fun f_17 ef_17 => ?_)
    refine lv_lstore_n (lv' := [(3, .long f_17), (0, .ref x0), (1, .long h)]) hx hb dX9_hashOfReadings_55 rfl hl (by decide) rfl (fun ls hl => ?_)
    refine lv_lload_n hx hb dX9_hashOfReadings_56 rfl (lv_at hl 0 rfl) ?_
    refine lv_aload_n hx hb dX9_hashOfReadings_57 rfl (lv_at hl 1 rfl) ?_
    refine va_get (D := E.1) (ci := 8) (v := .ref (na 0)) (C := RX9) (T := TX9) (N := 5) hx hb hts hi_X9 hown hK.1 hP 0 rfl rfl 0 (by decide) (hts (.fieldLink RX9 10 "AltimeterWatch" "now" "LAltimeterWatch$State;") (by decide +kernel)) (fun _ h9 => h9) rfl dX9_hashOfReadings_58 ?_
    refine va_get (D := E.1) (ci := 4) (v := .int (g 1)) (C := RX5) (T := TX5) (N := 10) hx hb hts hi_X5 hown hK.1 hP 1 rfl rfl 3 (by decide) (hts (.fieldLink RX9 77 "AltimeterWatch$State" "sea" "I") (by decide +kernel)) (fun _ h9 => h9) rfl dX9_hashOfReadings_61 ?_
    refine z_rdv (va_runS (As := [.long f_17, .int (g 1)]) (rest := []) ⟨hx, hb, hml, hown, hts⟩ (c_X9_mixed l E f_17 (g 1)) (va_cwS 2 hts gX9_hashOfReadings_X9_mixed rfl rfl rfl (by decide +kernel) ⟨Nat.le_of_ble_eq_true rfl, Nat.le_of_ble_eq_true rfl⟩) ⟨zPr.blind, z_prer hK zP_nil⟩ rfl rfl hl.1 rfl (lv_room (Nat.le_of_ble_eq_true rfl)) dX9_hashOfReadings_64 ⟨Nat.le_of_ble_eq_true rfl, Nat.le_of_ble_eq_true rfl⟩) ?_
    refine W.eq (g2 := F0 Mi 67 ls [.long (m_mix f_17 (g 1))]) rfl ?_
    refine lv_topl (fun f_18 ef_18 => ?_)
    refine lv_lstore_n (lv' := [(3, .long f_18), (0, .ref x0), (1, .long h)]) hx hb dX9_hashOfReadings_67 rfl hl (by decide) rfl (fun ls hl => ?_)
    refine lv_lload_n hx hb dX9_hashOfReadings_68 rfl (lv_at hl 0 rfl) ?_
    refine lv_aload_n hx hb dX9_hashOfReadings_69 rfl (lv_at hl 1 rfl) ?_
    refine va_get (D := E.1) (ci := 8) (v := .ref (na 0)) (C := RX9) (T := TX9) (N := 5) hx hb hts hi_X9 hown hK.1 hP 0 rfl rfl 0 (by decide) (hts (.fieldLink RX9 10 "AltimeterWatch" "now" "LAltimeterWatch$State;") (by decide +kernel)) (fun _ h9 => h9) rfl dX9_hashOfReadings_70 ?_
    refine va_get (D := E.1) (ci := 4) (v := .int (g 5)) (C := RX5) (T := TX5) (N := 10) hx hb hts hi_X5 hown hK.1 hP 1 rfl rfl 5 (by decide) (hts (.fieldLink RX9 88 "AltimeterWatch$State" "drift" "I") (by decide +kernel)) (fun _ h9 => h9) rfl dX9_hashOfReadings_73 ?_
    refine z_rdv (va_runS (As := [.long f_18, .int (g 5)]) (rest := []) ⟨hx, hb, hml, hown, hts⟩ (c_X9_mixed l E f_18 (g 5)) (va_cwS 2 hts gX9_hashOfReadings_X9_mixed rfl rfl rfl (by decide +kernel) ⟨Nat.le_of_ble_eq_true rfl, Nat.le_of_ble_eq_true rfl⟩) ⟨zPr.blind, z_prer hK zP_nil⟩ rfl rfl hl.1 rfl (lv_room (Nat.le_of_ble_eq_true rfl)) dX9_hashOfReadings_76 ⟨Nat.le_of_ble_eq_true rfl, Nat.le_of_ble_eq_true rfl⟩) ?_
    refine W.eq (g2 := F0 Mi 79 ls [.long (m_mix f_18 (g 5))]) rfl ?_
    refine lv_topl (fun f_19 ef_19 => ?_)
    refine lv_lstore_n (lv' := [(3, .long f_19), (0, .ref x0), (1, .long h)]) hx hb dX9_hashOfReadings_79 rfl hl (by decide) rfl (fun ls hl => ?_)
    refine lv_lload_n hx hb dX9_hashOfReadings_80 rfl (lv_at hl 0 rfl) ?_
    refine lv_aload_n hx hb dX9_hashOfReadings_81 rfl (lv_at hl 1 rfl) ?_
    refine va_get (D := E.1) (ci := 8) (v := .ref (na 0)) (C := RX9) (T := TX9) (N := 5) hx hb hts hi_X9 hown hK.1 hP 0 rfl rfl 0 (by decide) (hts (.fieldLink RX9 10 "AltimeterWatch" "now" "LAltimeterWatch$State;") (by decide +kernel)) (fun _ h9 => h9) rfl dX9_hashOfReadings_82 ?_
    refine va_get (D := E.1) (ci := 4) (v := .int (g 6)) (C := RX5) (T := TX5) (N := 10) hx hb hts hi_X5 hown hK.1 hP 1 rfl rfl 6 (by decide) (hts (.fieldLink RX9 91 "AltimeterWatch$State" "calibrations" "I") (by decide +kernel)) (fun _ h9 => h9) rfl dX9_hashOfReadings_85 ?_
    refine z_rdv (va_runS (As := [.long f_19, .int (g 6)]) (rest := []) ⟨hx, hb, hml, hown, hts⟩ (c_X9_mixed l E f_19 (g 6)) (va_cwS 2 hts gX9_hashOfReadings_X9_mixed rfl rfl rfl (by decide +kernel) ⟨Nat.le_of_ble_eq_true rfl, Nat.le_of_ble_eq_true rfl⟩) ⟨zPr.blind, z_prer hK zP_nil⟩ rfl rfl hl.1 rfl (lv_room (Nat.le_of_ble_eq_true rfl)) dX9_hashOfReadings_88 ⟨Nat.le_of_ble_eq_true rfl, Nat.le_of_ble_eq_true rfl⟩) ?_
    refine W.eq (g2 := F0 Mi 91 ls [.long (m_mix f_19 (g 6))]) rfl ?_
    refine lv_topl (fun f_20 ef_20 => ?_)
    refine lv_lstore_n (lv' := [(3, .long f_20), (0, .ref x0), (1, .long h)]) hx hb dX9_hashOfReadings_91 rfl hl (by decide) rfl (fun ls hl => ?_)
    refine lv_lload_n hx hb dX9_hashOfReadings_92 rfl (lv_at hl 0 rfl) ?_
    refine lv_aload_n hx hb dX9_hashOfReadings_93 rfl (lv_at hl 1 rfl) ?_
    refine va_get (D := E.1) (ci := 8) (v := .ref (na 0)) (C := RX9) (T := TX9) (N := 5) hx hb hts hi_X9 hown hK.1 hP 0 rfl rfl 0 (by decide) (hts (.fieldLink RX9 10 "AltimeterWatch" "now" "LAltimeterWatch$State;") (by decide +kernel)) (fun _ h9 => h9) rfl dX9_hashOfReadings_94 ?_
    refine va_get (D := E.1) (ci := 4) (v := .ref (na 1)) (C := RX5) (T := TX5) (N := 10) hx hb hts hi_X5 hown hK.1 hP 1 rfl rfl 7 (by decide) (hts (.fieldLink RX9 94 "AltimeterWatch$State" "climb" "LAltimeterWatch$Climb;") (by decide +kernel)) (fun _ h9 => h9) rfl dX9_hashOfReadings_97 ?_
    refine va_get (D := E.1) (ci := 0) (v := .int (g 7)) (C := RX1) (T := TX1) (N := 4) hx hb hts hi_X1 hown hK.1 hP 2 rfl rfl 1 (by decide) (hts (.fieldLink RX9 103 "AltimeterWatch$Climb" "ascent" "I") (by decide +kernel)) (fun _ h9 => h9) rfl dX9_hashOfReadings_100 ?_
    refine z_rdv (va_runS (As := [.long f_20, .int (g 7)]) (rest := []) ⟨hx, hb, hml, hown, hts⟩ (c_X9_mixed l E f_20 (g 7)) (va_cwS 2 hts gX9_hashOfReadings_X9_mixed rfl rfl rfl (by decide +kernel) ⟨Nat.le_of_ble_eq_true rfl, Nat.le_of_ble_eq_true rfl⟩) ⟨zPr.blind, z_prer hK zP_nil⟩ rfl rfl hl.1 rfl (lv_room (Nat.le_of_ble_eq_true rfl)) dX9_hashOfReadings_103 ⟨Nat.le_of_ble_eq_true rfl, Nat.le_of_ble_eq_true rfl⟩) ?_
    refine W.eq (g2 := F0 Mi 106 ls [.long (m_mix f_20 (g 7))]) rfl ?_
    refine lv_topl (fun f_21 ef_21 => ?_)
    refine lv_lstore_n (lv' := [(3, .long f_21), (0, .ref x0), (1, .long h)]) hx hb dX9_hashOfReadings_106 rfl hl (by decide) rfl (fun ls hl => ?_)
    refine lv_lload_n hx hb dX9_hashOfReadings_107 rfl (lv_at hl 0 rfl) ?_
    refine lv_aload_n hx hb dX9_hashOfReadings_108 rfl (lv_at hl 1 rfl) ?_
    refine va_get (D := E.1) (ci := 8) (v := .ref (na 0)) (C := RX9) (T := TX9) (N := 5) hx hb hts hi_X9 hown hK.1 hP 0 rfl rfl 0 (by decide) (hts (.fieldLink RX9 10 "AltimeterWatch" "now" "LAltimeterWatch$State;") (by decide +kernel)) (fun _ h9 => h9) rfl dX9_hashOfReadings_109 ?_
    refine va_get (D := E.1) (ci := 4) (v := .ref (na 1)) (C := RX5) (T := TX5) (N := 10) hx hb hts hi_X5 hown hK.1 hP 1 rfl rfl 7 (by decide) (hts (.fieldLink RX9 94 "AltimeterWatch$State" "climb" "LAltimeterWatch$Climb;") (by decide +kernel)) (fun _ h9 => h9) rfl dX9_hashOfReadings_112 ?_
    refine va_get (D := E.1) (ci := 0) (v := .int (g 8)) (C := RX1) (T := TX1) (N := 4) hx hb hts hi_X1 hown hK.1 hP 2 rfl rfl 2 (by decide) (hts (.fieldLink RX9 106 "AltimeterWatch$Climb" "descent" "I") (by decide +kernel)) (fun _ h9 => h9) rfl dX9_hashOfReadings_115 ?_
    refine z_rdv (va_runS (As := [.long f_21, .int (g 8)]) (rest := []) ⟨hx, hb, hml, hown, hts⟩ (c_X9_mixed l E f_21 (g 8)) (va_cwS 2 hts gX9_hashOfReadings_X9_mixed rfl rfl rfl (by decide +kernel) ⟨Nat.le_of_ble_eq_true rfl, Nat.le_of_ble_eq_true rfl⟩) ⟨zPr.blind, z_prer hK zP_nil⟩ rfl rfl hl.1 rfl (lv_room (Nat.le_of_ble_eq_true rfl)) dX9_hashOfReadings_118 ⟨Nat.le_of_ble_eq_true rfl, Nat.le_of_ble_eq_true rfl⟩) ?_
    refine W.eq (g2 := F0 Mi 121 ls [.long (m_mix f_21 (g 8))]) rfl ?_
    refine lv_topl (fun f_22 ef_22 => ?_)
    refine lv_lstore_n (lv' := [(3, .long f_22), (0, .ref x0), (1, .long h)]) hx hb dX9_hashOfReadings_121 rfl hl (by decide) rfl (fun ls hl => ?_)
    refine lv_lload_n hx hb dX9_hashOfReadings_122 rfl (lv_at hl 0 rfl) ?_
    refine lv_aload_n hx hb dX9_hashOfReadings_123 rfl (lv_at hl 1 rfl) ?_
    refine va_get (D := E.1) (ci := 8) (v := .ref (na 0)) (C := RX9) (T := TX9) (N := 5) hx hb hts hi_X9 hown hK.1 hP 0 rfl rfl 0 (by decide) (hts (.fieldLink RX9 10 "AltimeterWatch" "now" "LAltimeterWatch$State;") (by decide +kernel)) (fun _ h9 => h9) rfl dX9_hashOfReadings_124 ?_
    refine va_get (D := E.1) (ci := 4) (v := .ref (na 1)) (C := RX5) (T := TX5) (N := 10) hx hb hts hi_X5 hown hK.1 hP 1 rfl rfl 7 (by decide) (hts (.fieldLink RX9 94 "AltimeterWatch$State" "climb" "LAltimeterWatch$Climb;") (by decide +kernel)) (fun _ h9 => h9) rfl dX9_hashOfReadings_127 ?_
    refine va_get (D := E.1) (ci := 0) (v := .int (g 9)) (C := RX1) (T := TX1) (N := 4) hx hb hts hi_X1 hown hK.1 hP 2 rfl rfl 0 (by decide) (hts (.fieldLink RX9 109 "AltimeterWatch$Climb" "base" "I") (by decide +kernel)) (fun _ h9 => h9) rfl dX9_hashOfReadings_130 ?_
    refine z_rdv (va_runS (As := [.long f_22, .int (g 9)]) (rest := []) ⟨hx, hb, hml, hown, hts⟩ (c_X9_mixed l E f_22 (g 9)) (va_cwS 2 hts gX9_hashOfReadings_X9_mixed rfl rfl rfl (by decide +kernel) ⟨Nat.le_of_ble_eq_true rfl, Nat.le_of_ble_eq_true rfl⟩) ⟨zPr.blind, z_prer hK zP_nil⟩ rfl rfl hl.1 rfl (lv_room (Nat.le_of_ble_eq_true rfl)) dX9_hashOfReadings_133 ⟨Nat.le_of_ble_eq_true rfl, Nat.le_of_ble_eq_true rfl⟩) ?_
    refine W.eq (g2 := F0 Mi 136 ls [.long (m_mix f_22 (g 9))]) rfl ?_
    refine lv_topl (fun f_23 ef_23 => ?_)
    refine lv_lstore_n (lv' := [(3, .long f_23), (0, .ref x0), (1, .long h)]) hx hb dX9_hashOfReadings_136 rfl hl (by decide) rfl (fun ls hl => ?_)
    refine lv_lload_n hx hb dX9_hashOfReadings_137 rfl (lv_at hl 0 rfl) ?_
    refine lv_aload_n hx hb dX9_hashOfReadings_138 rfl (lv_at hl 1 rfl) ?_
    refine va_get (D := E.1) (ci := 8) (v := .ref (na 0)) (C := RX9) (T := TX9) (N := 5) hx hb hts hi_X9 hown hK.1 hP 0 rfl rfl 0 (by decide) (hts (.fieldLink RX9 10 "AltimeterWatch" "now" "LAltimeterWatch$State;") (by decide +kernel)) (fun _ h9 => h9) rfl dX9_hashOfReadings_139 ?_
    refine va_get (D := E.1) (ci := 4) (v := .ref (na 2)) (C := RX5) (T := TX5) (N := 10) hx hb hts hi_X5 hown hK.1 hP 1 rfl rfl 8 (by decide) (hts (.fieldLink RX9 136 "AltimeterWatch$State" "weather" "LAltimeterWatch$Weather;") (by decide +kernel)) (fun _ h9 => h9) rfl dX9_hashOfReadings_142 ?_
    refine va_get (D := E.1) (ci := 7) (v := .int (g 14)) (C := RX8) (T := TX8) (N := 5) hx hb hts hi_X8 hown hK.1 hP 3 rfl rfl 1 (by decide) (hts (.fieldLink RX9 145 "AltimeterWatch$Weather" "count" "I") (by decide +kernel)) (fun _ h9 => h9) rfl dX9_hashOfReadings_145 ?_
    refine z_rdv (va_runS (As := [.long f_23, .int (g 14)]) (rest := []) ⟨hx, hb, hml, hown, hts⟩ (c_X9_mixed l E f_23 (g 14)) (va_cwS 2 hts gX9_hashOfReadings_X9_mixed rfl rfl rfl (by decide +kernel) ⟨Nat.le_of_ble_eq_true rfl, Nat.le_of_ble_eq_true rfl⟩) ⟨zPr.blind, z_prer hK zP_nil⟩ rfl rfl hl.1 rfl (lv_room (Nat.le_of_ble_eq_true rfl)) dX9_hashOfReadings_148 ⟨Nat.le_of_ble_eq_true rfl, Nat.le_of_ble_eq_true rfl⟩) ?_
    refine W.eq (g2 := F0 Mi 151 ls [.long (m_mix f_23 (g 14))]) rfl ?_
    refine lv_topl (fun f_24 ef_24 => ?_)
    refine lv_lstore_n (lv' := [(3, .long f_24), (0, .ref x0), (1, .long h)]) hx hb dX9_hashOfReadings_151 rfl hl (by decide) rfl (fun ls hl => ?_)
    refine lv_lload_n hx hb dX9_hashOfReadings_152 rfl (lv_at hl 0 rfl) ?_
    refine lv_aload_n hx hb dX9_hashOfReadings_153 rfl (lv_at hl 1 rfl) ?_
    refine va_get (D := E.1) (ci := 8) (v := .ref (na 0)) (C := RX9) (T := TX9) (N := 5) hx hb hts hi_X9 hown hK.1 hP 0 rfl rfl 0 (by decide) (hts (.fieldLink RX9 10 "AltimeterWatch" "now" "LAltimeterWatch$State;") (by decide +kernel)) (fun _ h9 => h9) rfl dX9_hashOfReadings_154 ?_
    refine va_get (D := E.1) (ci := 4) (v := .ref (na 2)) (C := RX5) (T := TX5) (N := 10) hx hb hts hi_X5 hown hK.1 hP 1 rfl rfl 8 (by decide) (hts (.fieldLink RX9 136 "AltimeterWatch$State" "weather" "LAltimeterWatch$Weather;") (by decide +kernel)) (fun _ h9 => h9) rfl dX9_hashOfReadings_157 ?_
    have hP : va_P E.1 vwCl ([[(x0, .inr (8, [.ref (na 0), .ref k1, .ref k2, .ref k3, .ref k4]))], [((na 0), .inr (4, [.int (g 2), .int (g 3), .int (g 0), .int (g 1), .int (g 4), .int (g 5), .int (g 6), .ref (na 1), .ref (na 2), .ref (na 4)]))], [((na 1), .inr (0, [.int (g 9), .int (g 7), .int (g 8), .int (g 10)]))], [((na 2), .inr (7, [.ref (na 3), .int (g 14), .int (g 11), .int (g 12), .int (g 13)]))], [((na 3), .inl (E.2 0, 60, .inl (z_tr 60 (fun k => g (k + 15)))))], [((na 4), .inr (1, [.ref (na 5), .ref (na 6), .ref (na 7), .int (g 75)]))], [((na 5), .inl (E.2 0, 10, .inl (z_tr 10 (fun k => g (4 * k + 76)))))], [((na 6), .inl (E.2 0, 10, .inl (z_tr 10 (fun k => g (4 * k + 77)))))], [((na 7), .inl (E.2 0, 10, .inl (z_tr 10 (fun k => g (4 * k + 78)))))]] : List va_W).flatten s.heap := hP
    have hPc : va_P E.1 vwCl ([[((na 2), .inr (7, [.ref (na 3), .int (g 14), .int (g 11), .int (g 12), .int (g 13)]))], [((na 3), .inl (E.2 0, 60, .inl (z_tr 60 (fun k => g (k + 15)))))]] : List va_W).flatten s.heap := zf_sub hP [3, 4] rfl
    refine z_rdv (va_runV (As := []) (rest := [.long f_24]) ⟨hx, hb, hml, hown, hts⟩ (c_X8_presentFall l E (na 2) (na 3) (m_n (g 14)) (g 14) (g 11) (g 12) (g 13) (z_tr 60 (fun k => g (k + 15))) hg.1.1 hg.1.2) (cwV 0 hts gX9_hashOfReadings_X8_presentFall rfl rfl rfl (by decide +kernel) ⟨Nat.le_of_ble_eq_true rfl, Nat.le_of_ble_eq_true rfl⟩) ⟨zPr.blind, va_recv hK.1 hPc (ci := 7) (q0 := 0) rfl rfl, z_prer hK hPc⟩ rfl rfl hl.1 rfl (lv_room (Nat.le_of_ble_eq_true rfl)) dX9_hashOfReadings_160 ⟨Nat.le_of_ble_eq_true rfl, Nat.le_of_ble_eq_true rfl⟩) ?_
    refine W.eq (g2 := F0 Mi 163 ls [.int (m_fall (m_n (g 14)) (z_tr 60 (fun k => g (k + 15)))), .long f_24]) rfl ?_
    refine z_rdv (va_runS (As := [.long f_24, .int (m_fall (m_n (g 14)) (z_tr 60 (fun k => g (k + 15))))]) (rest := []) ⟨hx, hb, hml, hown, hts⟩ (c_X9_mixed l E f_24 (m_fall (m_n (g 14)) (z_tr 60 (fun k => g (k + 15))))) (va_cwS 2 hts gX9_hashOfReadings_X9_mixed rfl rfl rfl (by decide +kernel) ⟨Nat.le_of_ble_eq_true rfl, Nat.le_of_ble_eq_true rfl⟩) ⟨zPr.blind, z_prer hK zP_nil⟩ rfl rfl hl.1 rfl (lv_room (Nat.le_of_ble_eq_true rfl)) dX9_hashOfReadings_163 ⟨Nat.le_of_ble_eq_true rfl, Nat.le_of_ble_eq_true rfl⟩) ?_
    refine W.eq (g2 := F0 Mi 166 ls [.long (m_mix f_24 (m_fall (m_n (g 14)) (z_tr 60 (fun k => g (k + 15)))))]) rfl ?_
    refine lv_topl (fun f_25 ef_25 => ?_)
    refine lv_lstore_n (lv' := [(3, .long f_25), (0, .ref x0), (1, .long h)]) hx hb dX9_hashOfReadings_166 rfl hl (by decide) rfl (fun ls hl => ?_)
    refine lv_lload_n hx hb dX9_hashOfReadings_167 rfl (lv_at hl 0 rfl) ?_
    refine lv_aload_n hx hb dX9_hashOfReadings_168 rfl (lv_at hl 1 rfl) ?_
    refine va_get (D := E.1) (ci := 8) (v := .ref (na 0)) (C := RX9) (T := TX9) (N := 5) hx hb hts hi_X9 hown hK.1 hP 0 rfl rfl 0 (by decide) (hts (.fieldLink RX9 10 "AltimeterWatch" "now" "LAltimeterWatch$State;") (by decide +kernel)) (fun _ h9 => h9) rfl dX9_hashOfReadings_169 ?_
    refine va_get (D := E.1) (ci := 4) (v := .ref (na 2)) (C := RX5) (T := TX5) (N := 10) hx hb hts hi_X5 hown hK.1 hP 1 rfl rfl 8 (by decide) (hts (.fieldLink RX9 136 "AltimeterWatch$State" "weather" "LAltimeterWatch$Weather;") (by decide +kernel)) (fun _ h9 => h9) rfl dX9_hashOfReadings_172 ?_
    refine va_get (D := E.1) (ci := 7) (v := .int (g 12)) (C := RX8) (T := TX8) (N := 5) hx hb hts hi_X8 hown hK.1 hP 3 rfl rfl 3 (by decide) (hts (.fieldLink RX9 153 "AltimeterWatch$Weather" "begun" "I") (by decide +kernel)) (fun _ h9 => h9) rfl dX9_hashOfReadings_175 ?_
    refine z_rdv (va_runS (As := [.long f_25, .int (g 12)]) (rest := []) ⟨hx, hb, hml, hown, hts⟩ (c_X9_mixed l E f_25 (g 12)) (va_cwS 2 hts gX9_hashOfReadings_X9_mixed rfl rfl rfl (by decide +kernel) ⟨Nat.le_of_ble_eq_true rfl, Nat.le_of_ble_eq_true rfl⟩) ⟨zPr.blind, z_prer hK zP_nil⟩ rfl rfl hl.1 rfl (lv_room (Nat.le_of_ble_eq_true rfl)) dX9_hashOfReadings_178 ⟨Nat.le_of_ble_eq_true rfl, Nat.le_of_ble_eq_true rfl⟩) ?_
    refine W.eq (g2 := F0 Mi 181 ls [.long (m_mix f_25 (g 12))]) rfl ?_
    refine lv_topl (fun f_26 ef_26 => ?_)
    refine lv_lstore_n (lv' := [(3, .long f_26), (0, .ref x0), (1, .long h)]) hx hb dX9_hashOfReadings_181 rfl hl (by decide) rfl (fun ls hl => ?_)
    refine lv_lload_n hx hb dX9_hashOfReadings_182 rfl (lv_at hl 0 rfl) ?_
    refine lv_aload_n hx hb dX9_hashOfReadings_183 rfl (lv_at hl 1 rfl) ?_
    refine va_get (D := E.1) (ci := 8) (v := .ref (na 0)) (C := RX9) (T := TX9) (N := 5) hx hb hts hi_X9 hown hK.1 hP 0 rfl rfl 0 (by decide) (hts (.fieldLink RX9 10 "AltimeterWatch" "now" "LAltimeterWatch$State;") (by decide +kernel)) (fun _ h9 => h9) rfl dX9_hashOfReadings_184 ?_
    refine va_get (D := E.1) (ci := 4) (v := .ref (na 2)) (C := RX5) (T := TX5) (N := 10) hx hb hts hi_X5 hown hK.1 hP 1 rfl rfl 8 (by decide) (hts (.fieldLink RX9 136 "AltimeterWatch$State" "weather" "LAltimeterWatch$Weather;") (by decide +kernel)) (fun _ h9 => h9) rfl dX9_hashOfReadings_187 ?_
    have hPc : va_P E.1 vwCl ([[((na 2), .inr (7, [.ref (na 3), .int (g 14), .int (g 11), .int (g 12), .int (g 13)]))], [((na 3), .inl (E.2 0, 60, .inl (z_tr 60 (fun k => g (k + 15)))))]] : List va_W).flatten s.heap := zf_sub hP [3, 4] rfl
    refine z_rdv (va_runV (As := []) (rest := [.long f_26]) ⟨hx, hb, hml, hown, hts⟩ (c_X8_hasAlarm l E (na 2) (na 3) (m_n (g 14)) (g 14) (g 11) (g 12) (g 13) (z_tr 60 (fun k => g (k + 15))) hg.1.1 hg.1.2) (cwV 0 hts gX9_hashOfReadings_X8_hasAlarm rfl rfl rfl (by decide +kernel) ⟨Nat.le_of_ble_eq_true rfl, Nat.le_of_ble_eq_true rfl⟩) ⟨zPr.blind, va_recv hK.1 hPc (ci := 7) (q0 := 0) rfl rfl, z_prer hK hPc⟩ rfl rfl hl.1 rfl (lv_room (Nat.le_of_ble_eq_true rfl)) dX9_hashOfReadings_190 ⟨Nat.le_of_ble_eq_true rfl, Nat.le_of_ble_eq_true rfl⟩) ?_
    refine W.eq (g2 := F0 Mi 193 ls [.int (m_al (m_n (g 14)) (z_tr 60 (fun k => g (k + 15))) (g 11)), .long f_26]) rfl ?_
    refine lv_if_eq (tgt := 200) hx hb dX9_hashOfReadings_193 (by decide) (fun c_193 => ?_) (fun c_193 => ?_)
    · refine lv_iconst (v := 0) hx hb dX9_hashOfReadings_200 (by decide) ?_
      refine z_topi (y := (m_al (m_n (g 14)) (m_log g) (g 11))) c_193.symm ?_
      refine z_rdv (va_runS (As := [.long f_26, .int (m_al (m_n (g 14)) (m_log g) (g 11))]) (rest := []) ⟨hx, hb, hml, hown, hts⟩ (c_X9_mixed l E f_26 (m_al (m_n (g 14)) (m_log g) (g 11))) (va_cwS 2 hts gX9_hashOfReadings_X9_mixed rfl rfl rfl (by decide +kernel) ⟨Nat.le_of_ble_eq_true rfl, Nat.le_of_ble_eq_true rfl⟩) ⟨zPr.blind, z_prer hK zP_nil⟩ rfl rfl hl.1 rfl (lv_room (Nat.le_of_ble_eq_true rfl)) dX9_hashOfReadings_201 ⟨Nat.le_of_ble_eq_true rfl, Nat.le_of_ble_eq_true rfl⟩) ?_
      refine W.eq (g2 := F0 Mi 204 ls [.long (m_mix f_26 (m_al (m_n (g 14)) (m_log g) (g 11)))]) rfl ?_
      refine z_topl (y := m_hr g h) (by rw [ef_26, ef_25, ef_24, ef_23, ef_22, ef_21, ef_20, ef_19, ef_18, ef_17, ef_16, ef_15, ef_14]; rfl) ?_
      exact W.lret (v := m_hr g h) hx hb hr z_endR (fun _ h => by cases h) dX9_hashOfReadings_204 hlocks
    · refine lv_iconst (v := 1) hx hb dX9_hashOfReadings_196 (by decide) ?_
      refine lv_goto (tgt := 201) hx hb dX9_hashOfReadings_197 (by decide) ?_
      refine z_topi (y := (m_al (m_n (g 14)) (m_log g) (g 11))) ((m_al01 _ _ _).resolve_left c_193).symm ?_
      refine z_rdv (va_runS (As := [.long f_26, .int (m_al (m_n (g 14)) (m_log g) (g 11))]) (rest := []) ⟨hx, hb, hml, hown, hts⟩ (c_X9_mixed l E f_26 (m_al (m_n (g 14)) (m_log g) (g 11))) (va_cwS 2 hts gX9_hashOfReadings_X9_mixed rfl rfl rfl (by decide +kernel) ⟨Nat.le_of_ble_eq_true rfl, Nat.le_of_ble_eq_true rfl⟩) ⟨zPr.blind, z_prer hK zP_nil⟩ rfl rfl hl.1 rfl (lv_room (Nat.le_of_ble_eq_true rfl)) dX9_hashOfReadings_201 ⟨Nat.le_of_ble_eq_true rfl, Nat.le_of_ble_eq_true rfl⟩) ?_
      refine W.eq (g2 := F0 Mi 204 ls [.long (m_mix f_26 (m_al (m_n (g 14)) (m_log g) (g 11)))]) rfl ?_
      refine z_topl (y := m_hr g h) (by rw [ef_26, ef_25, ef_24, ef_23, ef_22, ef_21, ef_20, ef_19, ef_18, ef_17, ef_16, ef_15, ef_14]; rfl) ?_
      exact W.lret (v := m_hr g h) hx hb hr z_endR (fun _ h => by cases h) dX9_hashOfReadings_204 hlocks

set_option maxHeartbeats 4000000 in
set_option maxRecDepth 100000 in
theorem c_X9_hashOfMarks (l : Launch) (E : zE) (x0 k1 k2 k3 k4 : Nat) (na : Nat → Nat) (g : Nat → Int32) (h : Int64) (hg : z_ok g) : zR l yX9_hashOfMarks wsX9_hashOfMarks ({ frames := 2, cells := 0, slots := 0, locals := 42 }) E [.ref x0, .long h] ([[(x0, .inr (8, [.ref (na 0), .ref k1, .ref k2, .ref k3, .ref k4]))], z_St E na g] : List va_W).flatten (some (.long (m_hm g h (m_n (g 75))))) := by
  refine z_startr (cc := cX9_hashOfMarks) (maxL := 7) (ret := (some .long)) (by decide) rfl (Nat.le_of_ble_eq_true rfl) ?_
  intro Pg En s Mi below meth Cd hx hb hr hts hown hlocks hml hP hK ls hl
  have hl : lv_has ls 7 [(0, .ref x0), (1, .long h)] := hl
  have hP : va_P E.1 vwCl ([[(x0, .inr (8, [.ref (na 0), .ref k1, .ref k2, .ref k3, .ref k4]))], [((na 0), .inr (4, [.int (g 2), .int (g 3), .int (g 0), .int (g 1), .int (g 4), .int (g 5), .int (g 6), .ref (na 1), .ref (na 2), .ref (na 4)]))], [((na 1), .inr (0, [.int (g 9), .int (g 7), .int (g 8), .int (g 10)]))], [((na 2), .inr (7, [.ref (na 3), .int (g 14), .int (g 11), .int (g 12), .int (g 13)]))], [((na 3), .inl (E.2 0, 60, .inl (z_tr 60 (fun k => g (k + 15)))))], [((na 4), .inr (1, [.ref (na 5), .ref (na 6), .ref (na 7), .int (g 75)]))], [((na 5), .inl (E.2 0, 10, .inl (z_tr 10 (fun k => g (4 * k + 76)))))], [((na 6), .inl (E.2 0, 10, .inl (z_tr 10 (fun k => g (4 * k + 77)))))], [((na 7), .inl (E.2 0, 10, .inl (z_tr 10 (fun k => g (4 * k + 78)))))]] : List va_W).flatten s.heap := hP
  have hcn := hg.2.1.2
  have hi_X2 : ∀ w ∈ wsX20, w ∈ wsX9_hashOfMarks := by decide +kernel
  have hi_X5 : ∀ w ∈ wsX50, w ∈ wsX9_hashOfMarks := by decide +kernel
  have hi_X9 : ∀ w ∈ wsX90, w ∈ wsX9_hashOfMarks := by decide +kernel
  have LOOP_21 : ∀ (kz : Nat) (i : Nat) (x : Int32) (y : Int64), m_n (g 75) < i + kz → i ≤ m_n (g 75) → x = nI i → y = m_hm g h i →  ∀ (ls : Array Slot), lv_has ls 7 [(0, .ref x0), (3, .ref (na 4)), (4, .long y), (6, .int x)] → W Pg l En ({ frames := 2, cells := 0, slots := 0, locals := 42 } : Room) s Mi ([.ref x0, .long h] : List Value).toArray below meth Cd s.heap [] 0 0 (MQ below (zQr (some (.long (m_hm g h (m_n (g 75)))))) ([.ref x0, .long h] : List Value).toArray s 0 0 (fun _ => False)) (F0 Mi 21 ls []) := by
    intro kz
    induction kz with
    | zero => intro i x y h1 h2 h3 h5; exact absurd h1 (by omega)
    | succ kz ih =>
      intro i x y h1 h2 h3 h5 ls hl
      refine lv_iload hx hb dX9_hashOfMarks_21 (lv_at hl 3 rfl) ?_
      refine lv_aload_n hx hb dX9_hashOfMarks_23 rfl (lv_at hl 1 rfl) ?_
      refine va_get (D := E.1) (ci := 1) (v := .int (g 75)) (C := RX2) (T := TX2) (N := 4) hx hb hts hi_X2 hown hK.1 hP 5 rfl rfl 3 (by decide) (hts (.fieldLink RX9 119 "AltimeterWatch$Marks" "count" "I") (by decide +kernel)) (fun _ h9 => h9) rfl dX9_hashOfMarks_24 ?_
      refine lv_icmp_ge (tgt := 88) hx hb dX9_hashOfMarks_27 (by decide) (fun c_27 => ?_) (fun c_27 => ?_)
      · refine lv_lload hx hb dX9_hashOfMarks_88 (lv_at hl 2 rfl) ?_
        refine z_topl (y := m_hm g h (m_n (g 75))) (by have e2 : i = m_n (g 75) := (by have := nI_len (a := m_n (g 75)) (b := i) (by omega) (by omega) (by rw [← h3, ← hg.2.1.1]; exact c_27); omega); rw [h5, e2]) ?_
        exact W.lret (v := m_hm g h (m_n (g 75))) hx hb hr z_endR (fun _ h => by cases h) dX9_hashOfMarks_90 hlocks
      · have hlt : i < m_n (g 75) := nI_nlen (by omega) (by omega) (by rw [← h3, ← hg.2.1.1]; exact c_27)
        refine lv_iload hx hb dX9_hashOfMarks_30 (lv_at hl 3 rfl) ?_
        refine lv_bipush (v := 10) hx hb dX9_hashOfMarks_32 (by decide) ?_
        refine lv_icmp_ge (tgt := 88) hx hb dX9_hashOfMarks_34 (by decide) (fun h9 => absurd h9 ((by rw [h3]; exact nI_ge (b := 10) (by omega) (by decide)))) (fun _ => ?_)
        refine lv_lload hx hb dX9_hashOfMarks_37 (lv_at hl 2 rfl) ?_
        refine lv_aload_n hx hb dX9_hashOfMarks_39 rfl (lv_at hl 1 rfl) ?_
        refine lv_iload hx hb dX9_hashOfMarks_40 (lv_at hl 3 rfl) ?_
        have hPc : va_P E.1 vwCl ([[((na 4), .inr (1, [.ref (na 5), .ref (na 6), .ref (na 7), .int (g 75)]))], [((na 5), .inl (E.2 0, 10, .inl (z_tr 10 (fun k => g (4 * k + 76)))))], [((na 6), .inl (E.2 0, 10, .inl (z_tr 10 (fun k => g (4 * k + 77)))))], [((na 7), .inl (E.2 0, 10, .inl (z_tr 10 (fun k => g (4 * k + 78)))))]] : List va_W).flatten s.heap := zf_sub hP [5, 6, 7, 8] rfl
        refine z_rdv (va_runV (As := [.int x]) (rest := [.long y]) ⟨hx, hb, hml, hown, hts⟩ (c_X2_timeOf l E (na 4) (na 5) (na 6) (na 7) (g 75) x (z_tr 10 (fun k => g (4 * k + 76))) (z_tr 10 (fun k => g (4 * k + 77))) (z_tr 10 (fun k => g (4 * k + 78)))) (cwV 1 hts gX9_hashOfMarks_X2_timeOf rfl rfl rfl (by decide +kernel) ⟨Nat.le_of_ble_eq_true rfl, Nat.le_of_ble_eq_true rfl⟩) ⟨zPr.blind, va_recv hK.1 hPc (ci := 1) (q0 := 0) rfl rfl, z_prer hK hPc⟩ rfl rfl hl.1 rfl (lv_room (Nat.le_of_ble_eq_true rfl)) dX9_hashOfMarks_42 ⟨Nat.le_of_ble_eq_true rfl, Nat.le_of_ble_eq_true rfl⟩) ?_
        refine W.eq (g2 := F0 Mi 45 ls [.int (m_el 10 (z_tr 10 (fun k => g (4 * k + 76))) x), .long y]) rfl ?_
        refine z_topi (y := (g (4 * i + 76))) (m_el_tr h3 (by omega) (by decide)) ?_
        refine z_rdv (va_runS (As := [.long y, .int (g (4 * i + 76))]) (rest := []) ⟨hx, hb, hml, hown, hts⟩ (c_X9_mixed l E y (g (4 * i + 76))) (va_cwS 2 hts gX9_hashOfMarks_X9_mixed rfl rfl rfl (by decide +kernel) ⟨Nat.le_of_ble_eq_true rfl, Nat.le_of_ble_eq_true rfl⟩) ⟨zPr.blind, z_prer hK zP_nil⟩ rfl rfl hl.1 rfl (lv_room (Nat.le_of_ble_eq_true rfl)) dX9_hashOfMarks_45 ⟨Nat.le_of_ble_eq_true rfl, Nat.le_of_ble_eq_true rfl⟩) ?_
        refine W.eq (g2 := F0 Mi 48 ls [.long (m_mix y (g (4 * i + 76)))]) rfl ?_
        refine lv_topl (fun f_1 ef_1 => ?_)
        refine lv_lstore (lv' := [(4, .long f_1), (0, .ref x0), (3, .ref (na 4)), (6, .int x)]) hx hb dX9_hashOfMarks_48 hl (by decide) rfl (fun ls hl => ?_)
        refine lv_lload hx hb dX9_hashOfMarks_50 (lv_at hl 0 rfl) ?_
        refine lv_aload_n hx hb dX9_hashOfMarks_52 rfl (lv_at hl 2 rfl) ?_
        refine lv_iload hx hb dX9_hashOfMarks_53 (lv_at hl 3 rfl) ?_
        have hPc : va_P E.1 vwCl ([[((na 4), .inr (1, [.ref (na 5), .ref (na 6), .ref (na 7), .int (g 75)]))], [((na 5), .inl (E.2 0, 10, .inl (z_tr 10 (fun k => g (4 * k + 76)))))], [((na 6), .inl (E.2 0, 10, .inl (z_tr 10 (fun k => g (4 * k + 77)))))], [((na 7), .inl (E.2 0, 10, .inl (z_tr 10 (fun k => g (4 * k + 78)))))]] : List va_W).flatten s.heap := zf_sub hP [5, 6, 7, 8] rfl
        refine z_rdv (va_runV (As := [.int x]) (rest := [.long f_1]) ⟨hx, hb, hml, hown, hts⟩ (c_X2_heightOf l E (na 4) (na 5) (na 6) (na 7) (g 75) x (z_tr 10 (fun k => g (4 * k + 76))) (z_tr 10 (fun k => g (4 * k + 77))) (z_tr 10 (fun k => g (4 * k + 78)))) (cwV 1 hts gX9_hashOfMarks_X2_heightOf rfl rfl rfl (by decide +kernel) ⟨Nat.le_of_ble_eq_true rfl, Nat.le_of_ble_eq_true rfl⟩) ⟨zPr.blind, va_recv hK.1 hPc (ci := 1) (q0 := 0) rfl rfl, z_prer hK hPc⟩ rfl rfl hl.1 rfl (lv_room (Nat.le_of_ble_eq_true rfl)) dX9_hashOfMarks_55 ⟨Nat.le_of_ble_eq_true rfl, Nat.le_of_ble_eq_true rfl⟩) ?_
        refine W.eq (g2 := F0 Mi 58 ls [.int (m_el 10 (z_tr 10 (fun k => g (4 * k + 77))) x), .long f_1]) rfl ?_
        refine z_topi (y := (g (4 * i + 77))) (m_el_tr h3 (by omega) (by decide)) ?_
        refine z_rdv (va_runS (As := [.long f_1, .int (g (4 * i + 77))]) (rest := []) ⟨hx, hb, hml, hown, hts⟩ (c_X9_mixed l E f_1 (g (4 * i + 77))) (va_cwS 2 hts gX9_hashOfMarks_X9_mixed rfl rfl rfl (by decide +kernel) ⟨Nat.le_of_ble_eq_true rfl, Nat.le_of_ble_eq_true rfl⟩) ⟨zPr.blind, z_prer hK zP_nil⟩ rfl rfl hl.1 rfl (lv_room (Nat.le_of_ble_eq_true rfl)) dX9_hashOfMarks_58 ⟨Nat.le_of_ble_eq_true rfl, Nat.le_of_ble_eq_true rfl⟩) ?_
        refine W.eq (g2 := F0 Mi 61 ls [.long (m_mix f_1 (g (4 * i + 77)))]) rfl ?_
        refine lv_topl (fun f_2 ef_2 => ?_)
        refine lv_lstore (lv' := [(4, .long f_2), (0, .ref x0), (3, .ref (na 4)), (6, .int x)]) hx hb dX9_hashOfMarks_61 hl (by decide) rfl (fun ls hl => ?_)
        refine lv_lload hx hb dX9_hashOfMarks_63 (lv_at hl 0 rfl) ?_
        refine lv_aload_n hx hb dX9_hashOfMarks_65 rfl (lv_at hl 2 rfl) ?_
        refine lv_iload hx hb dX9_hashOfMarks_66 (lv_at hl 3 rfl) ?_
        have hPc : va_P E.1 vwCl ([[((na 4), .inr (1, [.ref (na 5), .ref (na 6), .ref (na 7), .int (g 75)]))], [((na 5), .inl (E.2 0, 10, .inl (z_tr 10 (fun k => g (4 * k + 76)))))], [((na 6), .inl (E.2 0, 10, .inl (z_tr 10 (fun k => g (4 * k + 77)))))], [((na 7), .inl (E.2 0, 10, .inl (z_tr 10 (fun k => g (4 * k + 78)))))]] : List va_W).flatten s.heap := zf_sub hP [5, 6, 7, 8] rfl
        refine z_rdv (va_runV (As := [.int x]) (rest := [.long f_2]) ⟨hx, hb, hml, hown, hts⟩ (c_X2_ascentOf l E (na 4) (na 5) (na 6) (na 7) (g 75) x (z_tr 10 (fun k => g (4 * k + 76))) (z_tr 10 (fun k => g (4 * k + 77))) (z_tr 10 (fun k => g (4 * k + 78)))) (cwV 1 hts gX9_hashOfMarks_X2_ascentOf rfl rfl rfl (by decide +kernel) ⟨Nat.le_of_ble_eq_true rfl, Nat.le_of_ble_eq_true rfl⟩) ⟨zPr.blind, va_recv hK.1 hPc (ci := 1) (q0 := 0) rfl rfl, z_prer hK hPc⟩ rfl rfl hl.1 rfl (lv_room (Nat.le_of_ble_eq_true rfl)) dX9_hashOfMarks_68 ⟨Nat.le_of_ble_eq_true rfl, Nat.le_of_ble_eq_true rfl⟩) ?_
        refine W.eq (g2 := F0 Mi 71 ls [.int (m_el 10 (z_tr 10 (fun k => g (4 * k + 78))) x), .long f_2]) rfl ?_
        refine lv_aload_n hx hb dX9_hashOfMarks_71 rfl (lv_at hl 2 rfl) ?_
        refine lv_iconst (v := 0) hx hb dX9_hashOfMarks_72 (by decide) ?_
        have hPc : va_P E.1 vwCl ([[((na 4), .inr (1, [.ref (na 5), .ref (na 6), .ref (na 7), .int (g 75)]))], [((na 5), .inl (E.2 0, 10, .inl (z_tr 10 (fun k => g (4 * k + 76)))))], [((na 6), .inl (E.2 0, 10, .inl (z_tr 10 (fun k => g (4 * k + 77)))))], [((na 7), .inl (E.2 0, 10, .inl (z_tr 10 (fun k => g (4 * k + 78)))))]] : List va_W).flatten s.heap := zf_sub hP [5, 6, 7, 8] rfl
        refine z_rdv (va_runV (As := [.int 0]) (rest := [.int (m_el 10 (z_tr 10 (fun k => g (4 * k + 78))) x), .long f_2]) ⟨hx, hb, hml, hown, hts⟩ (c_X2_ascentOf l E (na 4) (na 5) (na 6) (na 7) (g 75) 0 (z_tr 10 (fun k => g (4 * k + 76))) (z_tr 10 (fun k => g (4 * k + 77))) (z_tr 10 (fun k => g (4 * k + 78)))) (cwV 1 hts gX9_hashOfMarks_X2_ascentOf rfl rfl rfl (by decide +kernel) ⟨Nat.le_of_ble_eq_true rfl, Nat.le_of_ble_eq_true rfl⟩) ⟨zPr.blind, va_recv hK.1 hPc (ci := 1) (q0 := 0) rfl rfl, z_prer hK hPc⟩ rfl rfl hl.1 rfl (lv_room (Nat.le_of_ble_eq_true rfl)) dX9_hashOfMarks_73 ⟨Nat.le_of_ble_eq_true rfl, Nat.le_of_ble_eq_true rfl⟩) ?_
        refine W.eq (g2 := F0 Mi 76 ls [.int (m_el 10 (z_tr 10 (fun k => g (4 * k + 78))) 0), .int (m_el 10 (z_tr 10 (fun k => g (4 * k + 78))) x), .long f_2]) rfl ?_
        refine lv_isub hx hb dX9_hashOfMarks_76 ?_
        refine z_topi (y := (g (4 * i + 78) - g 78)) (by rw [m_el_tr h3 (by omega) (by decide), m_el_tr (x := 0) (i := 0) rfl (by decide) (by decide)]) ?_
        refine z_rdv (va_runS (As := [.long f_2, .int (g (4 * i + 78) - g 78)]) (rest := []) ⟨hx, hb, hml, hown, hts⟩ (c_X9_mixed l E f_2 (g (4 * i + 78) - g 78)) (va_cwS 2 hts gX9_hashOfMarks_X9_mixed rfl rfl rfl (by decide +kernel) ⟨Nat.le_of_ble_eq_true rfl, Nat.le_of_ble_eq_true rfl⟩) ⟨zPr.blind, z_prer hK zP_nil⟩ rfl rfl hl.1 rfl (lv_room (Nat.le_of_ble_eq_true rfl)) dX9_hashOfMarks_77 ⟨Nat.le_of_ble_eq_true rfl, Nat.le_of_ble_eq_true rfl⟩) ?_
        refine W.eq (g2 := F0 Mi 80 ls [.long (m_mix f_2 (g (4 * i + 78) - g 78))]) rfl ?_
        refine lv_topl (fun f_3 ef_3 => ?_)
        refine lv_lstore (lv' := [(4, .long f_3), (0, .ref x0), (3, .ref (na 4)), (6, .int x)]) hx hb dX9_hashOfMarks_80 hl (by decide) rfl (fun ls hl => ?_)
        obtain ⟨x_4, ex_4⟩ : ∃ y : Int32, y = x + 1 := ⟨_, rfl⟩
        refine lv_iinc (v := x_4) (lv' := [(6, .int x_4), (4, .long f_3), (0, .ref x0), (3, .ref (na 4))]) hx hb dX9_hashOfMarks_82 hl (k := 3) rfl (by rw [ex_4]; rfl) (by decide) rfl (fun ls hl => ?_)
        refine lv_goto (tgt := 21) hx hb dX9_hashOfMarks_85 (by decide) ?_
        exact ih (i + 1) x_4 _ (by omega) (by omega) (by rw [ex_4, h3]; exact nI_1 i) (by rw [ef_3, ef_2, ef_1, h5]; rfl) ls (lv_sub hl [2, 3, 1, 0] rfl)
  refine lv_aload_n hx hb dX9_hashOfMarks_0 rfl (lv_at hl 0 rfl) ?_
  refine va_get (D := E.1) (ci := 8) (v := .ref (na 0)) (C := RX9) (T := TX9) (N := 5) hx hb hts hi_X9 hown hK.1 hP 0 rfl rfl 0 (by decide) (hts (.fieldLink RX9 10 "AltimeterWatch" "now" "LAltimeterWatch$State;") (by decide +kernel)) (fun _ h9 => h9) rfl dX9_hashOfMarks_1 ?_
  refine va_get (D := E.1) (ci := 4) (v := .ref (na 4)) (C := RX5) (T := TX5) (N := 10) hx hb hts hi_X5 hown hK.1 hP 1 rfl rfl 9 (by decide) (hts (.fieldLink RX9 115 "AltimeterWatch$State" "marks" "LAltimeterWatch$Marks;") (by decide +kernel)) (fun _ h9 => h9) rfl dX9_hashOfMarks_4 ?_
  refine lv_astore_n (lv' := [(3, .ref (na 4)), (0, .ref x0), (1, .long h)]) hx hb dX9_hashOfMarks_7 rfl hl (by decide) rfl (fun ls hl => ?_)
  refine lv_lload_n hx hb dX9_hashOfMarks_8 rfl (lv_at hl 2 rfl) ?_
  refine lv_aload_n hx hb dX9_hashOfMarks_9 rfl (lv_at hl 0 rfl) ?_
  refine va_get (D := E.1) (ci := 1) (v := .int (g 75)) (C := RX2) (T := TX2) (N := 4) hx hb hts hi_X2 hown hK.1 hP 5 rfl rfl 3 (by decide) (hts (.fieldLink RX9 119 "AltimeterWatch$Marks" "count" "I") (by decide +kernel)) (fun _ h9 => h9) rfl dX9_hashOfMarks_10 ?_
  refine z_rdv (va_runS (As := [.long h, .int (g 75)]) (rest := []) ⟨hx, hb, hml, hown, hts⟩ (c_X9_mixed l E h (g 75)) (va_cwS 2 hts gX9_hashOfMarks_X9_mixed rfl rfl rfl (by decide +kernel) ⟨Nat.le_of_ble_eq_true rfl, Nat.le_of_ble_eq_true rfl⟩) ⟨zPr.blind, z_prer hK zP_nil⟩ rfl rfl hl.1 rfl (lv_room (Nat.le_of_ble_eq_true rfl)) dX9_hashOfMarks_13 ⟨Nat.le_of_ble_eq_true rfl, Nat.le_of_ble_eq_true rfl⟩) ?_
  refine W.eq (g2 := F0 Mi 16 ls [.long (m_mix h (g 75))]) rfl ?_
  refine lv_topl (fun f_5 ef_5 => ?_)
  refine lv_lstore (lv' := [(4, .long f_5), (3, .ref (na 4)), (0, .ref x0), (1, .long h)]) hx hb dX9_hashOfMarks_16 hl (by decide) rfl (fun ls hl => ?_)
  refine lv_iconst (v := 0) hx hb dX9_hashOfMarks_18 (by decide) ?_
  refine lv_istore (lv' := [(6, .int 0), (4, .long f_5), (3, .ref (na 4)), (0, .ref x0), (1, .long h)]) hx hb dX9_hashOfMarks_19 hl (by decide) rfl (fun ls hl => ?_)
  exact LOOP_21 (m_n (g 75) + 1) 0 0 _ (by omega) (by omega) rfl ef_5 ls (lv_sub hl [3, 2, 1, 0] rfl)

set_option maxHeartbeats 4000000 in
set_option maxRecDepth 100000 in
theorem c_X9_digest (l : Launch) (E : zE) (xa na ma mb : Nat → Nat) (ad : Nat → Nat → Nat) (tx : Nat → Int32) (ln nx ct f0 f1 : Int32) (g ga gb : Nat → Int32) (v : Nat → Nat → Int32) (hw : z_wk ln nx ct f0 f1 g ga gb v)  : zR l yX9_digest wsX9_digest ({ frames := 5, cells := 0, slots := 0, locals := 108 }) E [.ref (xa 0)] ([(z_W E xa na ma mb ad tx ln nx ct f0 f1 g ga gb v).flatten] : List va_W).flatten (some (.long (m_dg g))) := by
  refine z_startr (cc := cX9_digest) (maxL := 3) (ret := (some .long)) (by decide) rfl (Nat.le_of_ble_eq_true rfl) ?_
  intro Pg En s Mi below meth Cd hx hb hr hts hown hlocks hml hP hK ls hl
  have hl : lv_has ls 3 [(0, .ref (xa 0))] := hl
  rw [zf_one] at hP
  have hP : va_P E.1 vwCl ([[((xa 0), .inr (8, [.ref (na 0), .ref (xa 3), .ref (xa 5), .ref (xa 6), .ref (xa 1)]))], [((xa 1), .inr (6, [.ref (xa 2), .int ln]))], [((xa 2), .inl (E.2 0, 60, .inl tx))], [((xa 3), .inr (3, [.ref (xa 4), .int nx, .int ct]))], [((xa 4), .inl (E.2 2, 6, .inr (.inr (.inr (.inr (z_pl ad 6))))))], [((xa 5), .inr (2, [.ref (ma 0), .int f0]))], [((xa 6), .inr (2, [.ref (mb 0), .int f1]))], z_St E na g, z_St E ma ga, z_St E mb gb, z_SS E ad v 6] : List va_W).flatten s.heap := hP
  have hi_X9 : ∀ w ∈ wsX90, w ∈ wsX9_digest := by decide +kernel
  refine lv_aload_n hx hb dX9_digest_0 rfl (lv_at hl 0 rfl) ?_
  refine lv_ldc2 hx hb hown (hts (.constantLong RX9 232 (4369)) (by decide +kernel)) dX9_digest_1 ?_
  have hPc : va_P E.1 vwCl ([[((xa 0), .inr (8, [.ref (na 0), .ref (xa 3), .ref (xa 5), .ref (xa 6), .ref (xa 1)]))], z_St E na g] : List va_W).flatten s.heap := zf_sub hP [0, 7] rfl
  refine z_rdv (va_runV (As := [.long 4369]) (rest := []) ⟨hx, hb, hml, hown, hts⟩ (c_X9_hashOfReadings l E (xa 0) (xa 3) (xa 5) (xa 6) (xa 1) na g 4369 hw.1) (cwV 1 hts gX9_digest_X9_hashOfReadings rfl rfl rfl (by decide +kernel) ⟨Nat.le_of_ble_eq_true rfl, Nat.le_of_ble_eq_true rfl⟩) ⟨zPr.blind, va_recv hK.1 hPc (ci := 8) (q0 := 0) rfl rfl, z_prer hK hPc⟩ rfl rfl hl.1 rfl (lv_room (Nat.le_of_ble_eq_true rfl)) dX9_digest_4 ⟨Nat.le_of_ble_eq_true rfl, Nat.le_of_ble_eq_true rfl⟩) ?_
  refine W.eq (g2 := F0 Mi 7 ls [.long (m_hr g 4369)]) rfl ?_
  refine lv_topl (fun f_1 ef_1 => ?_)
  refine lv_lstore_n (lv' := [(1, .long f_1), (0, .ref (xa 0))]) hx hb dX9_digest_7 rfl hl (by decide) rfl (fun ls hl => ?_)
  refine lv_aload_n hx hb dX9_digest_8 rfl (lv_at hl 1 rfl) ?_
  refine lv_lload_n hx hb dX9_digest_9 rfl (lv_at hl 0 rfl) ?_
  have hPc : va_P E.1 vwCl ([[((xa 0), .inr (8, [.ref (na 0), .ref (xa 3), .ref (xa 5), .ref (xa 6), .ref (xa 1)]))], z_St E na g] : List va_W).flatten s.heap := zf_sub hP [0, 7] rfl
  refine z_rdv (va_runV (As := [.long f_1]) (rest := []) ⟨hx, hb, hml, hown, hts⟩ (c_X9_hashOfMarks l E (xa 0) (xa 3) (xa 5) (xa 6) (xa 1) na g f_1 hw.1) (cwV 1 hts gX9_digest_X9_hashOfMarks rfl rfl rfl (by decide +kernel) ⟨Nat.le_of_ble_eq_true rfl, Nat.le_of_ble_eq_true rfl⟩) ⟨zPr.blind, va_recv hK.1 hPc (ci := 8) (q0 := 0) rfl rfl, z_prer hK hPc⟩ rfl rfl hl.1 rfl (lv_room (Nat.le_of_ble_eq_true rfl)) dX9_digest_10 ⟨Nat.le_of_ble_eq_true rfl, Nat.le_of_ble_eq_true rfl⟩) ?_
  refine W.eq (g2 := F0 Mi 13 ls [.long (m_hm g f_1 (m_n (g 75)))]) rfl ?_
  refine lv_topl (fun f_2 ef_2 => ?_)
  refine lv_lstore_n (lv' := [(1, .long f_2), (0, .ref (xa 0))]) hx hb dX9_digest_13 rfl hl (by decide) rfl (fun ls hl => ?_)
  refine lv_lload_n hx hb dX9_digest_14 rfl (lv_at hl 0 rfl) ?_
  refine lv_aload_n hx hb dX9_digest_15 rfl (lv_at hl 1 rfl) ?_
  refine va_get (D := E.1) (ci := 8) (v := .ref (na 0)) (C := RX9) (T := TX9) (N := 5) hx hb hts hi_X9 hown hK.1 hP 0 rfl rfl 0 (by decide) (hts (.fieldLink RX9 10 "AltimeterWatch" "now" "LAltimeterWatch$State;") (by decide +kernel)) (fun _ h9 => h9) rfl dX9_digest_16 ?_
  refine lv_sipush (v := 1000) hx hb dX9_digest_19 (by decide) ?_
  have hPc : va_P E.1 vwCl ([z_St E na g] : List va_W).flatten s.heap := zf_sub hP [7] rfl
  refine z_rdv (va_runV (As := [.int 1000]) (rest := [.long f_2]) ⟨hx, hb, hml, hown, hts⟩ (c_X5_pressureAtHeight l E na g 1000) (cwV 1 hts gX9_digest_X5_pressureAtHeight rfl rfl rfl (by decide +kernel) ⟨Nat.le_of_ble_eq_true rfl, Nat.le_of_ble_eq_true rfl⟩) ⟨zPr.blind, va_recv hK.1 hPc (ci := 4) (q0 := 0) rfl rfl, z_prer hK hPc⟩ rfl rfl hl.1 rfl (lv_room (Nat.le_of_ble_eq_true rfl)) dX9_digest_22 ⟨Nat.le_of_ble_eq_true rfl, Nat.le_of_ble_eq_true rfl⟩) ?_
  refine W.eq (g2 := F0 Mi 25 ls [.int (m_down (1000 + m_std (g 1)) 5000 6001), .long f_2]) rfl ?_
  refine z_rdv (va_runS (As := [.long f_2, .int (m_down (1000 + m_std (g 1)) 5000 6001)]) (rest := []) ⟨hx, hb, hml, hown, hts⟩ (c_X9_mixed l E f_2 (m_down (1000 + m_std (g 1)) 5000 6001)) (va_cwS 2 hts gX9_digest_X9_mixed rfl rfl rfl (by decide +kernel) ⟨Nat.le_of_ble_eq_true rfl, Nat.le_of_ble_eq_true rfl⟩) ⟨zPr.blind, z_prer hK zP_nil⟩ rfl rfl hl.1 rfl (lv_room (Nat.le_of_ble_eq_true rfl)) dX9_digest_25 ⟨Nat.le_of_ble_eq_true rfl, Nat.le_of_ble_eq_true rfl⟩) ?_
  refine W.eq (g2 := F0 Mi 28 ls [.long (m_mix f_2 (m_down (1000 + m_std (g 1)) 5000 6001))]) rfl ?_
  refine lv_topl (fun f_3 ef_3 => ?_)
  refine lv_lstore_n (lv' := [(1, .long f_3), (0, .ref (xa 0))]) hx hb dX9_digest_28 rfl hl (by decide) rfl (fun ls hl => ?_)
  refine lv_lload_n hx hb dX9_digest_29 rfl (lv_at hl 0 rfl) ?_
  refine lv_aload_n hx hb dX9_digest_30 rfl (lv_at hl 1 rfl) ?_
  refine va_get (D := E.1) (ci := 8) (v := .ref (na 0)) (C := RX9) (T := TX9) (N := 5) hx hb hts hi_X9 hown hK.1 hP 0 rfl rfl 0 (by decide) (hts (.fieldLink RX9 10 "AltimeterWatch" "now" "LAltimeterWatch$State;") (by decide +kernel)) (fun _ h9 => h9) rfl dX9_digest_31 ?_
  refine lv_iconst (v := 5) hx hb dX9_digest_34 (by decide) ?_
  have hPc : va_P E.1 vwCl ([z_St E na g] : List va_W).flatten s.heap := zf_sub hP [7] rfl
  refine z_rdv (va_runV (As := [.int 5]) (rest := [.long f_3]) ⟨hx, hb, hml, hown, hts⟩ (c_X5_minutesUntilAlarm l E na g 5 hw.1) (cwV 1 hts gX9_digest_X5_minutesUntilAlarm rfl rfl rfl (by decide +kernel) ⟨Nat.le_of_ble_eq_true rfl, Nat.le_of_ble_eq_true rfl⟩) ⟨zPr.blind, va_recv hK.1 hPc (ci := 4) (q0 := 0) rfl rfl, z_prer hK hPc⟩ rfl rfl hl.1 rfl (lv_room (Nat.le_of_ble_eq_true rfl)) dX9_digest_35 ⟨Nat.le_of_ble_eq_true rfl, Nat.le_of_ble_eq_true rfl⟩) ?_
  refine W.eq (g2 := F0 Mi 38 ls [.int (m_muC g 5), .long f_3]) rfl ?_
  refine z_rdv (va_runS (As := [.long f_3, .int (m_muC g 5)]) (rest := []) ⟨hx, hb, hml, hown, hts⟩ (c_X9_mixed l E f_3 (m_muC g 5)) (va_cwS 2 hts gX9_digest_X9_mixed rfl rfl rfl (by decide +kernel) ⟨Nat.le_of_ble_eq_true rfl, Nat.le_of_ble_eq_true rfl⟩) ⟨zPr.blind, z_prer hK zP_nil⟩ rfl rfl hl.1 rfl (lv_room (Nat.le_of_ble_eq_true rfl)) dX9_digest_38 ⟨Nat.le_of_ble_eq_true rfl, Nat.le_of_ble_eq_true rfl⟩) ?_
  refine W.eq (g2 := F0 Mi 41 ls [.long (m_mix f_3 (m_muC g 5))]) rfl ?_
  refine z_topl (y := m_dg g) (by rw [ef_3, ef_2, ef_1]; rfl) ?_
  exact W.lret (v := m_dg g) hx hb hr z_endR (fun _ h => by cases h) dX9_digest_41 hlocks

set_option maxHeartbeats 4000000 in
set_option maxRecDepth 100000 in
theorem c_X9_store (l : Launch) (E : zE) (sa : Nat → Nat) (hl0 : l.stackTraces = false) (xa na ma mb : Nat → Nat) (ad : Nat → Nat → Nat) (tx : Nat → Int32) (ln nx ct f0 f1 : Int32) (g ga gb : Nat → Int32) (v : Nat → Nat → Int32) (hw : z_wk ln nx ct f0 f1 g ga gb v) (x : Int32) : zME l yX9_store wsX9_store ({ frames := 7, cells := 1, slots := 6, locals := 112 }) E sa [.ref (xa 0), .int x] ([(z_W E xa na ma mb ad tx ln nx ct f0 f1 g ga gb v).flatten] : List va_W).flatten (0 ≤ x ∧ x ≤ 1) (some (.int (m_std (g 0) - m_std (g 1)))) ([(z_W E xa na ma mb ad tx ln nx ct (if x = 0 then 1 else f0) (if x = 0 then f1 else 1) g (if x = 0 then g else ga) (if x = 0 then gb else g) v).flatten] : List va_W).flatten (fun Ex => Ex = zIA ∧ ¬ (0 ≤ x ∧ x ≤ 1)) 1 6 := by
  refine z_starte (cc := cX9_store) (maxL := 3) (ret := (some .int)) (by decide) rfl (Nat.le_of_ble_eq_true rfl) ?_
  intro Pg En s Mi below meth Cd A hx hb hr hts hown hlocks hml hnt hA hT hZ H hH hP hK hD hS ls hl
  have hl : lv_has ls 3 [(0, .ref (xa 0)), (1, .int x)] := hl
  rw [zf_one] at hP hD
  have hP : va_P E.1 vwCl ([[((xa 0), .inr (8, [.ref (na 0), .ref (xa 3), .ref (xa 5), .ref (xa 6), .ref (xa 1)]))], [((xa 1), .inr (6, [.ref (xa 2), .int ln]))], [((xa 2), .inl (E.2 0, 60, .inl tx))], [((xa 3), .inr (3, [.ref (xa 4), .int nx, .int ct]))], [((xa 4), .inl (E.2 2, 6, .inr (.inr (.inr (.inr (z_pl ad 6))))))], [((xa 5), .inr (2, [.ref (ma 0), .int f0]))], [((xa 6), .inr (2, [.ref (mb 0), .int f1]))], z_St E na g, z_St E ma ga, z_St E mb gb, z_SS E ad v 6] : List va_W).flatten H := hP
  have hD : va_D A ([[((xa 0), .inr (8, [.ref (na 0), .ref (xa 3), .ref (xa 5), .ref (xa 6), .ref (xa 1)]))], [((xa 1), .inr (6, [.ref (xa 2), .int ln]))], [((xa 2), .inl (E.2 0, 60, .inl tx))], [((xa 3), .inr (3, [.ref (xa 4), .int nx, .int ct]))], [((xa 4), .inl (E.2 2, 6, .inr (.inr (.inr (.inr (z_pl ad 6))))))], [((xa 5), .inr (2, [.ref (ma 0), .int f0]))], [((xa 6), .inr (2, [.ref (mb 0), .int f1]))], z_St E na g, z_St E ma ga, z_St E mb gb, z_SS E ad v 6] : List va_W).flatten := hD
  have hi_X3 : ∀ w ∈ wsX30, w ∈ wsX9_store := by decide +kernel
  have hi_X9 : ∀ w ∈ wsX90, w ∈ wsX9_store := by decide +kernel
  refine lv_iload_n hx hb dX9_store_0 rfl (lv_at hl 1 rfl) ?_
  refine lv_iconst (v := 0) hx hb dX9_store_1 (by decide) ?_
  refine lv_iconst (v := 1) hx hb dX9_store_2 (by decide) ?_
  have hPc : va_P E.1 vwCl ([] : List va_W).flatten H := zf_sub hP [] rfl
  have hDc : va_D A ([] : List va_W).flatten := zf_subD hD [] (by decide) rfl
  refine z_xmut (Sc := []) (Sr := [[((xa 0), .inr (8, [.ref (na 0), .ref (xa 3), .ref (xa 5), .ref (xa 6), .ref (xa 1)]))], [((xa 1), .inr (6, [.ref (xa 2), .int ln]))], [((xa 2), .inl (E.2 0, 60, .inl tx))], [((xa 3), .inr (3, [.ref (xa 4), .int nx, .int ct]))], [((xa 4), .inl (E.2 2, 6, .inr (.inr (.inr (.inr (z_pl ad 6))))))], [((xa 5), .inr (2, [.ref (ma 0), .int f0]))], [((xa 6), .inr (2, [.ref (mb 0), .int f1]))], z_St E na g, z_St E ma ga, z_St E mb gb, z_SS E ad v 6]) (W1 := []) (vx_runS (As := [.int x, .int 0, .int 1]) (rest := []) ⟨hx, hb, hml, hown, hts⟩ (c_X9_refuseOutside l E sa hl0 x 0 1 H.size) (va_cwS 3 hts gX9_store_X9_refuseOutside rfl rfl rfl (by decide +kernel) ⟨Nat.le_of_ble_eq_true rfl, Nat.le_of_ble_eq_true rfl⟩) ⟨zPE.blind, z_preE hK hT hZ hS (zf_free hD hS hA [] rfl) hPc hDc⟩ rfl rfl hl.1 rfl (lv_room (Nat.le_of_ble_eq_true rfl)) dX9_store_3 ⟨Nat.le_of_ble_eq_true rfl, Nat.le_of_ble_eq_true rfl⟩) hP hD hS hA [] [0, 1, 2, 3, 4, 5, 6, 7, 8, 9, 10] rfl rfl (by decide) (by decide) (fun Ex ce q9 H locs hps hP hD hS hce hcv hcl => ?_) (fun H locs hph3 hP hD hS => ?_)
  · have hP : va_P E.1 vwCl ([[((xa 0), .inr (8, [.ref (na 0), .ref (xa 3), .ref (xa 5), .ref (xa 6), .ref (xa 1)]))], [((xa 1), .inr (6, [.ref (xa 2), .int ln]))], [((xa 2), .inl (E.2 0, 60, .inl tx))], [((xa 3), .inr (3, [.ref (xa 4), .int nx, .int ct]))], [((xa 4), .inl (E.2 2, 6, .inr (.inr (.inr (.inr (z_pl ad 6))))))], [((xa 5), .inr (2, [.ref (ma 0), .int f0]))], [((xa 6), .inr (2, [.ref (mb 0), .int f1]))], z_St E na g, z_St E ma ga, z_St E mb gb, z_SS E ad v 6] : List va_W).flatten H := zf_sub hP [0, 1, 2, 3, 4, 5, 6, 7, 8, 9, 10] rfl
    have hD : va_D A ([[((xa 0), .inr (8, [.ref (na 0), .ref (xa 3), .ref (xa 5), .ref (xa 6), .ref (xa 1)]))], [((xa 1), .inr (6, [.ref (xa 2), .int ln]))], [((xa 2), .inl (E.2 0, 60, .inl tx))], [((xa 3), .inr (3, [.ref (xa 4), .int nx, .int ct]))], [((xa 4), .inl (E.2 2, 6, .inr (.inr (.inr (.inr (z_pl ad 6))))))], [((xa 5), .inr (2, [.ref (ma 0), .int f0]))], [((xa 6), .inr (2, [.ref (mb 0), .int f1]))], z_St E na g, z_St E ma ga, z_St E mb gb, z_SS E ad v 6] : List va_W).flatten := zf_subD hD [0, 1, 2, 3, 4, 5, 6, 7, 8, 9, 10] (by decide) rfl
    exact z_outE hnt hlocks hce hcv hcl hps hP hD hS (by rw [zf_one]; rfl) (by decide) (by decide)
  have hP : va_P E.1 vwCl ([[((xa 0), .inr (8, [.ref (na 0), .ref (xa 3), .ref (xa 5), .ref (xa 6), .ref (xa 1)]))], [((xa 1), .inr (6, [.ref (xa 2), .int ln]))], [((xa 2), .inl (E.2 0, 60, .inl tx))], [((xa 3), .inr (3, [.ref (xa 4), .int nx, .int ct]))], [((xa 4), .inl (E.2 2, 6, .inr (.inr (.inr (.inr (z_pl ad 6))))))], [((xa 5), .inr (2, [.ref (ma 0), .int f0]))], [((xa 6), .inr (2, [.ref (mb 0), .int f1]))], z_St E na g, z_St E ma ga, z_St E mb gb, z_SS E ad v 6] : List va_W).flatten H := hP
  have hD : va_D A ([[((xa 0), .inr (8, [.ref (na 0), .ref (xa 3), .ref (xa 5), .ref (xa 6), .ref (xa 1)]))], [((xa 1), .inr (6, [.ref (xa 2), .int ln]))], [((xa 2), .inl (E.2 0, 60, .inl tx))], [((xa 3), .inr (3, [.ref (xa 4), .int nx, .int ct]))], [((xa 4), .inl (E.2 2, 6, .inr (.inr (.inr (.inr (z_pl ad 6))))))], [((xa 5), .inr (2, [.ref (ma 0), .int f0]))], [((xa 6), .inr (2, [.ref (mb 0), .int f1]))], z_St E na g, z_St E ma ga, z_St E mb gb, z_SS E ad v 6] : List va_W).flatten := hD
  refine W.widen (k := 1) (n := 6) (by decide) (by decide) ?_
  refine W.eq (g2 := F0 Mi 6 ls []) rfl ?_
  by_cases hi : x = 0
  · refine lv_aload_n hx hb dX9_store_6 rfl (lv_at hl 0 rfl) ?_
    refine lv_iload_n hx hb dX9_store_7 rfl (lv_at hl 1 rfl) ?_
    have hPc : va_P E.1 vwCl ([[((xa 0), .inr (8, [.ref (na 0), .ref (xa 3), .ref (xa 5), .ref (xa 6), .ref (xa 1)]))]] : List va_W).flatten H := zf_sub hP [0] rfl
    refine z_rdv (va_runV (As := [.int x]) (rest := []) ⟨hx, hb, hml, hown, hts⟩ (c_X9_memoryOf0 l E (xa 0) (na 0) (xa 3) (xa 5) (xa 6) (xa 1) x hi) (cwV 1 hts gX9_store_X9_memoryOf rfl rfl rfl (by decide +kernel) ⟨Nat.le_of_ble_eq_true rfl, Nat.le_of_ble_eq_true rfl⟩) ⟨zPr.blind, va_recv hK.1 hPc (ci := 8) (q0 := 0) rfl rfl, z_prer hK hPc⟩ rfl rfl hl.1 rfl (lv_room (Nat.le_of_ble_eq_true rfl)) dX9_store_8 ⟨Nat.le_of_ble_eq_true rfl, Nat.le_of_ble_eq_true rfl⟩) ?_
    refine W.eq (g2 := F0 Mi 11 ls [.ref (xa 5)]) rfl ?_
    refine lv_astore_n (lv' := [(2, .ref (xa 5)), (0, .ref (xa 0)), (1, .int x)]) hx hb dX9_store_11 rfl hl (by decide) rfl (fun ls hl => ?_)
    refine lv_aload_n hx hb dX9_store_12 rfl (lv_at hl 0 rfl) ?_
    refine va_get (D := E.1) (ci := 2) (v := .ref (ma 0)) (C := RX3) (T := TX3) (N := 2) hx hb hts hi_X3 hown hK.1 hP 5 rfl rfl 0 (by decide) (hts (.fieldLink RX9 221 "AltimeterWatch$Memory" "kept" "LAltimeterWatch$State;") (by decide +kernel)) (fun _ h9 => h9) rfl dX9_store_13 ?_
    refine lv_aload_n hx hb dX9_store_16 rfl (lv_at hl 1 rfl) ?_
    refine va_get (D := E.1) (ci := 8) (v := .ref (na 0)) (C := RX9) (T := TX9) (N := 5) hx hb hts hi_X9 hown hK.1 hP 0 rfl rfl 0 (by decide) (hts (.fieldLink RX9 10 "AltimeterWatch" "now" "LAltimeterWatch$State;") (by decide +kernel)) (fun _ h9 => h9) rfl dX9_store_17 ?_
    have hPc : va_P E.1 vwCl ([z_St E ma ga, z_St E na g] : List va_W).flatten H := zf_sub hP [8, 7] rfl
    have hDc : va_D A ([z_St E ma ga, z_St E na g] : List va_W).flatten := zf_subD hD [8, 7] (by decide) rfl
    refine z_mut (Sc := [z_St E ma ga, z_St E na g]) (Sr := [[((xa 0), .inr (8, [.ref (na 0), .ref (xa 3), .ref (xa 5), .ref (xa 6), .ref (xa 1)]))], [((xa 1), .inr (6, [.ref (xa 2), .int ln]))], [((xa 2), .inl (E.2 0, 60, .inl tx))], [((xa 3), .inr (3, [.ref (xa 4), .int nx, .int ct]))], [((xa 4), .inl (E.2 2, 6, .inr (.inr (.inr (.inr (z_pl ad 6))))))], [((xa 5), .inr (2, [.ref (ma 0), .int f0]))], [((xa 6), .inr (2, [.ref (mb 0), .int f1]))], z_St E mb gb, z_SS E ad v 6]) (W1 := [z_St E ma g, z_St E na g]) (va_runV (As := [.ref (na 0)]) (rest := []) ⟨hx, hb, hml, hown, hts⟩ (c_X5_copyFrom l E ma na ga g hw.1.2.2.1 hw.1.2.2.2 H.size) (cwV 1 hts gX9_store_X5_copyFrom rfl rfl rfl (by decide +kernel) ⟨Nat.le_of_ble_eq_true rfl, Nat.le_of_ble_eq_true rfl⟩) ⟨zP.blind, va_recv hK.1 hPc (ci := 4) (q0 := 0) rfl rfl, z_pre hK hPc hDc⟩ rfl rfl hl.1 rfl (lv_room (Nat.le_of_ble_eq_true rfl)) dX9_store_20 ⟨Nat.le_of_ble_eq_true rfl, Nat.le_of_ble_eq_true rfl⟩) hP hD hS hA [8, 7] [0, 1, 2, 3, 4, 5, 6, 9, 10] rfl rfl (by decide) (by decide) (fun H locs hP hD hS => ?_)
    have hP : va_P E.1 vwCl ([[((xa 0), .inr (8, [.ref (na 0), .ref (xa 3), .ref (xa 5), .ref (xa 6), .ref (xa 1)]))], [((xa 1), .inr (6, [.ref (xa 2), .int ln]))], [((xa 2), .inl (E.2 0, 60, .inl tx))], [((xa 3), .inr (3, [.ref (xa 4), .int nx, .int ct]))], [((xa 4), .inl (E.2 2, 6, .inr (.inr (.inr (.inr (z_pl ad 6))))))], [((xa 5), .inr (2, [.ref (ma 0), .int f0]))], [((xa 6), .inr (2, [.ref (mb 0), .int f1]))], z_St E mb gb, z_SS E ad v 6, z_St E ma g, z_St E na g] : List va_W).flatten H := hP
    have hD : va_D A ([[((xa 0), .inr (8, [.ref (na 0), .ref (xa 3), .ref (xa 5), .ref (xa 6), .ref (xa 1)]))], [((xa 1), .inr (6, [.ref (xa 2), .int ln]))], [((xa 2), .inl (E.2 0, 60, .inl tx))], [((xa 3), .inr (3, [.ref (xa 4), .int nx, .int ct]))], [((xa 4), .inl (E.2 2, 6, .inr (.inr (.inr (.inr (z_pl ad 6))))))], [((xa 5), .inr (2, [.ref (ma 0), .int f0]))], [((xa 6), .inr (2, [.ref (mb 0), .int f1]))], z_St E mb gb, z_SS E ad v 6, z_St E ma g, z_St E na g] : List va_W).flatten := hD
    have hP : va_P E.1 vwCl ([[((xa 0), .inr (8, [.ref (na 0), .ref (xa 3), .ref (xa 5), .ref (xa 6), .ref (xa 1)]))], [((xa 1), .inr (6, [.ref (xa 2), .int ln]))], [((xa 2), .inl (E.2 0, 60, .inl tx))], [((xa 3), .inr (3, [.ref (xa 4), .int nx, .int ct]))], [((xa 4), .inl (E.2 2, 6, .inr (.inr (.inr (.inr (z_pl ad 6))))))], [((xa 5), .inr (2, [.ref (ma 0), .int f0]))], [((xa 6), .inr (2, [.ref (mb 0), .int f1]))], z_St E mb gb, z_St E ma g, z_St E na g, z_SS E ad v 6] : List va_W).flatten H := zf_sub hP [0, 1, 2, 3, 4, 5, 6, 7, 9, 10, 8] rfl
    have hD : va_D A ([[((xa 0), .inr (8, [.ref (na 0), .ref (xa 3), .ref (xa 5), .ref (xa 6), .ref (xa 1)]))], [((xa 1), .inr (6, [.ref (xa 2), .int ln]))], [((xa 2), .inl (E.2 0, 60, .inl tx))], [((xa 3), .inr (3, [.ref (xa 4), .int nx, .int ct]))], [((xa 4), .inl (E.2 2, 6, .inr (.inr (.inr (.inr (z_pl ad 6))))))], [((xa 5), .inr (2, [.ref (ma 0), .int f0]))], [((xa 6), .inr (2, [.ref (mb 0), .int f1]))], z_St E mb gb, z_St E ma g, z_St E na g, z_SS E ad v 6] : List va_W).flatten := zf_subD hD [0, 1, 2, 3, 4, 5, 6, 7, 9, 10, 8] (by decide) rfl
    refine W.eq (g2 := F0 Mi 23 ls []) rfl ?_
    refine lv_aload_n hx hb dX9_store_23 rfl (lv_at hl 0 rfl) ?_
    refine lv_iconst (v := 1) hx hb dX9_store_24 (by decide) ?_
    refine va_put (D := E.1) (ci := 2) (v := .int 1) (ty := .boolean) (C := RX3) (T := TX3) (N := 2) hx hb hts hi_X3 tyX3 tyX3_ok nmX3 hown hK.1 hP hD hS 5 rfl rfl 1 (by decide) (hts (.fieldLink RX9 227 "AltimeterWatch$Memory" "filled" "Z") (by decide +kernel)) (fun _ h9 => h9) rfl (by decide +kernel) (z_bool (Or.inr rfl)) (z_fit (Or.inr rfl)) (Nat.le_of_ble_eq_true rfl) dX9_store_25 (fun H locs hP hD hS => ?_)
    have hP : va_P E.1 vwCl ([[((xa 0), .inr (8, [.ref (na 0), .ref (xa 3), .ref (xa 5), .ref (xa 6), .ref (xa 1)]))], [((xa 1), .inr (6, [.ref (xa 2), .int ln]))], [((xa 2), .inl (E.2 0, 60, .inl tx))], [((xa 3), .inr (3, [.ref (xa 4), .int nx, .int ct]))], [((xa 4), .inl (E.2 2, 6, .inr (.inr (.inr (.inr (z_pl ad 6))))))], [((xa 5), .inr (2, [.ref (ma 0), .int 1]))], [((xa 6), .inr (2, [.ref (mb 0), .int f1]))], z_St E mb gb, z_St E ma g, z_St E na g, z_SS E ad v 6] : List va_W).flatten H := hP
    have hD : va_D A ([[((xa 0), .inr (8, [.ref (na 0), .ref (xa 3), .ref (xa 5), .ref (xa 6), .ref (xa 1)]))], [((xa 1), .inr (6, [.ref (xa 2), .int ln]))], [((xa 2), .inl (E.2 0, 60, .inl tx))], [((xa 3), .inr (3, [.ref (xa 4), .int nx, .int ct]))], [((xa 4), .inl (E.2 2, 6, .inr (.inr (.inr (.inr (z_pl ad 6))))))], [((xa 5), .inr (2, [.ref (ma 0), .int 1]))], [((xa 6), .inr (2, [.ref (mb 0), .int f1]))], z_St E mb gb, z_St E ma g, z_St E na g, z_SS E ad v 6] : List va_W).flatten := hD
    refine lv_aload_n hx hb dX9_store_28 rfl (lv_at hl 1 rfl) ?_
    refine va_get (D := E.1) (ci := 8) (v := .ref (na 0)) (C := RX9) (T := TX9) (N := 5) hx hb hts hi_X9 hown hK.1 hP 0 rfl rfl 0 (by decide) (hts (.fieldLink RX9 10 "AltimeterWatch" "now" "LAltimeterWatch$State;") (by decide +kernel)) (fun _ h9 => h9) rfl dX9_store_29 ?_
    have hPc : va_P E.1 vwCl ([z_St E na g] : List va_W).flatten H := zf_sub hP [9] rfl
    refine z_rdv (va_runV (As := []) (rest := []) ⟨hx, hb, hml, hown, hts⟩ (c_X5_heightS l E na g) (cwV 0 hts gX9_store_X5_height rfl rfl rfl (by decide +kernel) ⟨Nat.le_of_ble_eq_true rfl, Nat.le_of_ble_eq_true rfl⟩) ⟨zPr.blind, va_recv hK.1 hPc (ci := 4) (q0 := 0) rfl rfl, z_prer hK hPc⟩ rfl rfl hl.1 rfl (lv_room (Nat.le_of_ble_eq_true rfl)) dX9_store_32 ⟨Nat.le_of_ble_eq_true rfl, Nat.le_of_ble_eq_true rfl⟩) ?_
    refine W.eq (g2 := F0 Mi 35 ls [.int (m_std (g 0) - m_std (g 1))]) rfl ?_
    have hP : va_P E.1 vwCl ([[((xa 0), .inr (8, [.ref (na 0), .ref (xa 3), .ref (xa 5), .ref (xa 6), .ref (xa 1)]))], [((xa 1), .inr (6, [.ref (xa 2), .int ln]))], [((xa 2), .inl (E.2 0, 60, .inl tx))], [((xa 3), .inr (3, [.ref (xa 4), .int nx, .int ct]))], [((xa 4), .inl (E.2 2, 6, .inr (.inr (.inr (.inr (z_pl ad 6))))))], [((xa 5), .inr (2, [.ref (ma 0), .int 1]))], [((xa 6), .inr (2, [.ref (mb 0), .int f1]))], z_St E na g, z_St E ma g, z_St E mb gb, z_SS E ad v 6] : List va_W).flatten H := zf_sub hP [0, 1, 2, 3, 4, 5, 6, 9, 8, 7, 10] rfl
    have hD : va_D A ([[((xa 0), .inr (8, [.ref (na 0), .ref (xa 3), .ref (xa 5), .ref (xa 6), .ref (xa 1)]))], [((xa 1), .inr (6, [.ref (xa 2), .int ln]))], [((xa 2), .inl (E.2 0, 60, .inl tx))], [((xa 3), .inr (3, [.ref (xa 4), .int nx, .int ct]))], [((xa 4), .inl (E.2 2, 6, .inr (.inr (.inr (.inr (z_pl ad 6))))))], [((xa 5), .inr (2, [.ref (ma 0), .int 1]))], [((xa 6), .inr (2, [.ref (mb 0), .int f1]))], z_St E na g, z_St E ma g, z_St E mb gb, z_SS E ad v 6] : List va_W).flatten := zf_subD hD [0, 1, 2, 3, 4, 5, 6, 9, 8, 7, 10] (by decide) rfl
    refine vx_ret ?_
    exact W.iret (v := (m_std (g 0) - m_std (g 1))) hx hb hr (z_ende hph3 hP hD hS (by rw [zf_one]; simp only [if_pos hi]; rfl)) hS.2.2 dX9_store_35 hlocks
  · refine lv_aload_n hx hb dX9_store_6 rfl (lv_at hl 0 rfl) ?_
    refine lv_iload_n hx hb dX9_store_7 rfl (lv_at hl 1 rfl) ?_
    have hPc : va_P E.1 vwCl ([[((xa 0), .inr (8, [.ref (na 0), .ref (xa 3), .ref (xa 5), .ref (xa 6), .ref (xa 1)]))]] : List va_W).flatten H := zf_sub hP [0] rfl
    refine z_rdv (va_runV (As := [.int x]) (rest := []) ⟨hx, hb, hml, hown, hts⟩ (c_X9_memoryOf1 l E (xa 0) (na 0) (xa 3) (xa 5) (xa 6) (xa 1) x hi) (cwV 1 hts gX9_store_X9_memoryOf rfl rfl rfl (by decide +kernel) ⟨Nat.le_of_ble_eq_true rfl, Nat.le_of_ble_eq_true rfl⟩) ⟨zPr.blind, va_recv hK.1 hPc (ci := 8) (q0 := 0) rfl rfl, z_prer hK hPc⟩ rfl rfl hl.1 rfl (lv_room (Nat.le_of_ble_eq_true rfl)) dX9_store_8 ⟨Nat.le_of_ble_eq_true rfl, Nat.le_of_ble_eq_true rfl⟩) ?_
    refine W.eq (g2 := F0 Mi 11 ls [.ref (xa 6)]) rfl ?_
    refine lv_astore_n (lv' := [(2, .ref (xa 6)), (0, .ref (xa 0)), (1, .int x)]) hx hb dX9_store_11 rfl hl (by decide) rfl (fun ls hl => ?_)
    refine lv_aload_n hx hb dX9_store_12 rfl (lv_at hl 0 rfl) ?_
    refine va_get (D := E.1) (ci := 2) (v := .ref (mb 0)) (C := RX3) (T := TX3) (N := 2) hx hb hts hi_X3 hown hK.1 hP 6 rfl rfl 0 (by decide) (hts (.fieldLink RX9 221 "AltimeterWatch$Memory" "kept" "LAltimeterWatch$State;") (by decide +kernel)) (fun _ h9 => h9) rfl dX9_store_13 ?_
    refine lv_aload_n hx hb dX9_store_16 rfl (lv_at hl 1 rfl) ?_
    refine va_get (D := E.1) (ci := 8) (v := .ref (na 0)) (C := RX9) (T := TX9) (N := 5) hx hb hts hi_X9 hown hK.1 hP 0 rfl rfl 0 (by decide) (hts (.fieldLink RX9 10 "AltimeterWatch" "now" "LAltimeterWatch$State;") (by decide +kernel)) (fun _ h9 => h9) rfl dX9_store_17 ?_
    have hPc : va_P E.1 vwCl ([z_St E mb gb, z_St E na g] : List va_W).flatten H := zf_sub hP [9, 7] rfl
    have hDc : va_D A ([z_St E mb gb, z_St E na g] : List va_W).flatten := zf_subD hD [9, 7] (by decide) rfl
    refine z_mut (Sc := [z_St E mb gb, z_St E na g]) (Sr := [[((xa 0), .inr (8, [.ref (na 0), .ref (xa 3), .ref (xa 5), .ref (xa 6), .ref (xa 1)]))], [((xa 1), .inr (6, [.ref (xa 2), .int ln]))], [((xa 2), .inl (E.2 0, 60, .inl tx))], [((xa 3), .inr (3, [.ref (xa 4), .int nx, .int ct]))], [((xa 4), .inl (E.2 2, 6, .inr (.inr (.inr (.inr (z_pl ad 6))))))], [((xa 5), .inr (2, [.ref (ma 0), .int f0]))], [((xa 6), .inr (2, [.ref (mb 0), .int f1]))], z_St E ma ga, z_SS E ad v 6]) (W1 := [z_St E mb g, z_St E na g]) (va_runV (As := [.ref (na 0)]) (rest := []) ⟨hx, hb, hml, hown, hts⟩ (c_X5_copyFrom l E mb na gb g hw.1.2.2.1 hw.1.2.2.2 H.size) (cwV 1 hts gX9_store_X5_copyFrom rfl rfl rfl (by decide +kernel) ⟨Nat.le_of_ble_eq_true rfl, Nat.le_of_ble_eq_true rfl⟩) ⟨zP.blind, va_recv hK.1 hPc (ci := 4) (q0 := 0) rfl rfl, z_pre hK hPc hDc⟩ rfl rfl hl.1 rfl (lv_room (Nat.le_of_ble_eq_true rfl)) dX9_store_20 ⟨Nat.le_of_ble_eq_true rfl, Nat.le_of_ble_eq_true rfl⟩) hP hD hS hA [9, 7] [0, 1, 2, 3, 4, 5, 6, 8, 10] rfl rfl (by decide) (by decide) (fun H locs hP hD hS => ?_)
    have hP : va_P E.1 vwCl ([[((xa 0), .inr (8, [.ref (na 0), .ref (xa 3), .ref (xa 5), .ref (xa 6), .ref (xa 1)]))], [((xa 1), .inr (6, [.ref (xa 2), .int ln]))], [((xa 2), .inl (E.2 0, 60, .inl tx))], [((xa 3), .inr (3, [.ref (xa 4), .int nx, .int ct]))], [((xa 4), .inl (E.2 2, 6, .inr (.inr (.inr (.inr (z_pl ad 6))))))], [((xa 5), .inr (2, [.ref (ma 0), .int f0]))], [((xa 6), .inr (2, [.ref (mb 0), .int f1]))], z_St E ma ga, z_SS E ad v 6, z_St E mb g, z_St E na g] : List va_W).flatten H := hP
    have hD : va_D A ([[((xa 0), .inr (8, [.ref (na 0), .ref (xa 3), .ref (xa 5), .ref (xa 6), .ref (xa 1)]))], [((xa 1), .inr (6, [.ref (xa 2), .int ln]))], [((xa 2), .inl (E.2 0, 60, .inl tx))], [((xa 3), .inr (3, [.ref (xa 4), .int nx, .int ct]))], [((xa 4), .inl (E.2 2, 6, .inr (.inr (.inr (.inr (z_pl ad 6))))))], [((xa 5), .inr (2, [.ref (ma 0), .int f0]))], [((xa 6), .inr (2, [.ref (mb 0), .int f1]))], z_St E ma ga, z_SS E ad v 6, z_St E mb g, z_St E na g] : List va_W).flatten := hD
    have hP : va_P E.1 vwCl ([[((xa 0), .inr (8, [.ref (na 0), .ref (xa 3), .ref (xa 5), .ref (xa 6), .ref (xa 1)]))], [((xa 1), .inr (6, [.ref (xa 2), .int ln]))], [((xa 2), .inl (E.2 0, 60, .inl tx))], [((xa 3), .inr (3, [.ref (xa 4), .int nx, .int ct]))], [((xa 4), .inl (E.2 2, 6, .inr (.inr (.inr (.inr (z_pl ad 6))))))], [((xa 5), .inr (2, [.ref (ma 0), .int f0]))], [((xa 6), .inr (2, [.ref (mb 0), .int f1]))], z_St E ma ga, z_St E mb g, z_St E na g, z_SS E ad v 6] : List va_W).flatten H := zf_sub hP [0, 1, 2, 3, 4, 5, 6, 7, 9, 10, 8] rfl
    have hD : va_D A ([[((xa 0), .inr (8, [.ref (na 0), .ref (xa 3), .ref (xa 5), .ref (xa 6), .ref (xa 1)]))], [((xa 1), .inr (6, [.ref (xa 2), .int ln]))], [((xa 2), .inl (E.2 0, 60, .inl tx))], [((xa 3), .inr (3, [.ref (xa 4), .int nx, .int ct]))], [((xa 4), .inl (E.2 2, 6, .inr (.inr (.inr (.inr (z_pl ad 6))))))], [((xa 5), .inr (2, [.ref (ma 0), .int f0]))], [((xa 6), .inr (2, [.ref (mb 0), .int f1]))], z_St E ma ga, z_St E mb g, z_St E na g, z_SS E ad v 6] : List va_W).flatten := zf_subD hD [0, 1, 2, 3, 4, 5, 6, 7, 9, 10, 8] (by decide) rfl
    refine W.eq (g2 := F0 Mi 23 ls []) rfl ?_
    refine lv_aload_n hx hb dX9_store_23 rfl (lv_at hl 0 rfl) ?_
    refine lv_iconst (v := 1) hx hb dX9_store_24 (by decide) ?_
    refine va_put (D := E.1) (ci := 2) (v := .int 1) (ty := .boolean) (C := RX3) (T := TX3) (N := 2) hx hb hts hi_X3 tyX3 tyX3_ok nmX3 hown hK.1 hP hD hS 6 rfl rfl 1 (by decide) (hts (.fieldLink RX9 227 "AltimeterWatch$Memory" "filled" "Z") (by decide +kernel)) (fun _ h9 => h9) rfl (by decide +kernel) (z_bool (Or.inr rfl)) (z_fit (Or.inr rfl)) (Nat.le_of_ble_eq_true rfl) dX9_store_25 (fun H locs hP hD hS => ?_)
    have hP : va_P E.1 vwCl ([[((xa 0), .inr (8, [.ref (na 0), .ref (xa 3), .ref (xa 5), .ref (xa 6), .ref (xa 1)]))], [((xa 1), .inr (6, [.ref (xa 2), .int ln]))], [((xa 2), .inl (E.2 0, 60, .inl tx))], [((xa 3), .inr (3, [.ref (xa 4), .int nx, .int ct]))], [((xa 4), .inl (E.2 2, 6, .inr (.inr (.inr (.inr (z_pl ad 6))))))], [((xa 5), .inr (2, [.ref (ma 0), .int f0]))], [((xa 6), .inr (2, [.ref (mb 0), .int 1]))], z_St E ma ga, z_St E mb g, z_St E na g, z_SS E ad v 6] : List va_W).flatten H := hP
    have hD : va_D A ([[((xa 0), .inr (8, [.ref (na 0), .ref (xa 3), .ref (xa 5), .ref (xa 6), .ref (xa 1)]))], [((xa 1), .inr (6, [.ref (xa 2), .int ln]))], [((xa 2), .inl (E.2 0, 60, .inl tx))], [((xa 3), .inr (3, [.ref (xa 4), .int nx, .int ct]))], [((xa 4), .inl (E.2 2, 6, .inr (.inr (.inr (.inr (z_pl ad 6))))))], [((xa 5), .inr (2, [.ref (ma 0), .int f0]))], [((xa 6), .inr (2, [.ref (mb 0), .int 1]))], z_St E ma ga, z_St E mb g, z_St E na g, z_SS E ad v 6] : List va_W).flatten := hD
    refine lv_aload_n hx hb dX9_store_28 rfl (lv_at hl 1 rfl) ?_
    refine va_get (D := E.1) (ci := 8) (v := .ref (na 0)) (C := RX9) (T := TX9) (N := 5) hx hb hts hi_X9 hown hK.1 hP 0 rfl rfl 0 (by decide) (hts (.fieldLink RX9 10 "AltimeterWatch" "now" "LAltimeterWatch$State;") (by decide +kernel)) (fun _ h9 => h9) rfl dX9_store_29 ?_
    have hPc : va_P E.1 vwCl ([z_St E na g] : List va_W).flatten H := zf_sub hP [9] rfl
    refine z_rdv (va_runV (As := []) (rest := []) ⟨hx, hb, hml, hown, hts⟩ (c_X5_heightS l E na g) (cwV 0 hts gX9_store_X5_height rfl rfl rfl (by decide +kernel) ⟨Nat.le_of_ble_eq_true rfl, Nat.le_of_ble_eq_true rfl⟩) ⟨zPr.blind, va_recv hK.1 hPc (ci := 4) (q0 := 0) rfl rfl, z_prer hK hPc⟩ rfl rfl hl.1 rfl (lv_room (Nat.le_of_ble_eq_true rfl)) dX9_store_32 ⟨Nat.le_of_ble_eq_true rfl, Nat.le_of_ble_eq_true rfl⟩) ?_
    refine W.eq (g2 := F0 Mi 35 ls [.int (m_std (g 0) - m_std (g 1))]) rfl ?_
    have hP : va_P E.1 vwCl ([[((xa 0), .inr (8, [.ref (na 0), .ref (xa 3), .ref (xa 5), .ref (xa 6), .ref (xa 1)]))], [((xa 1), .inr (6, [.ref (xa 2), .int ln]))], [((xa 2), .inl (E.2 0, 60, .inl tx))], [((xa 3), .inr (3, [.ref (xa 4), .int nx, .int ct]))], [((xa 4), .inl (E.2 2, 6, .inr (.inr (.inr (.inr (z_pl ad 6))))))], [((xa 5), .inr (2, [.ref (ma 0), .int f0]))], [((xa 6), .inr (2, [.ref (mb 0), .int 1]))], z_St E na g, z_St E ma ga, z_St E mb g, z_SS E ad v 6] : List va_W).flatten H := zf_sub hP [0, 1, 2, 3, 4, 5, 6, 9, 7, 8, 10] rfl
    have hD : va_D A ([[((xa 0), .inr (8, [.ref (na 0), .ref (xa 3), .ref (xa 5), .ref (xa 6), .ref (xa 1)]))], [((xa 1), .inr (6, [.ref (xa 2), .int ln]))], [((xa 2), .inl (E.2 0, 60, .inl tx))], [((xa 3), .inr (3, [.ref (xa 4), .int nx, .int ct]))], [((xa 4), .inl (E.2 2, 6, .inr (.inr (.inr (.inr (z_pl ad 6))))))], [((xa 5), .inr (2, [.ref (ma 0), .int f0]))], [((xa 6), .inr (2, [.ref (mb 0), .int 1]))], z_St E na g, z_St E ma ga, z_St E mb g, z_SS E ad v 6] : List va_W).flatten := zf_subD hD [0, 1, 2, 3, 4, 5, 6, 9, 7, 8, 10] (by decide) rfl
    refine vx_ret ?_
    exact W.iret (v := (m_std (g 0) - m_std (g 1))) hx hb hr (z_ende hph3 hP hD hS (by rw [zf_one]; simp only [if_neg hi]; rfl)) hS.2.2 dX9_store_35 hlocks

set_option maxHeartbeats 4000000 in
set_option maxRecDepth 100000 in
theorem c_X9_recall (l : Launch) (E : zE) (sa : Nat → Nat) (hl0 : l.stackTraces = false) (xa na ma mb : Nat → Nat) (ad : Nat → Nat → Nat) (tx : Nat → Int32) (ln nx ct f0 f1 : Int32) (g ga gb : Nat → Int32) (v : Nat → Nat → Int32) (hw : z_wk ln nx ct f0 f1 g ga gb v) (x : Int32) : zME l yX9_recall wsX9_recall ({ frames := 7, cells := 2, slots := 12, locals := 112 }) E sa [.ref (xa 0), .int x] ([(z_W E xa na ma mb ad tx ln nx ct f0 f1 g ga gb v).flatten] : List va_W).flatten ((0 ≤ x ∧ x ≤ 1) ∧ ¬ (if x = 0 then f0 else f1) = 0) (some (.int (m_std ((if x = 0 then ga else gb) 0) - m_std ((if x = 0 then ga else gb) 1)))) ([(z_W E xa na ma mb ad tx ln (nI ((m_n nx + 1) % 6)) (nI (if m_n ct < 6 then m_n ct + 1 else 6)) f0 f1 (if x = 0 then ga else gb) ga gb (va_up v (m_n nx) g)).flatten] : List va_W).flatten (fun Ex => (Ex = zIA ∧ ¬ (0 ≤ x ∧ x ≤ 1)) ∨ (Ex = zIS ∧ (0 ≤ x ∧ x ≤ 1) ∧ (if x = 0 then f0 else f1) = 0)) 2 12 := by
  refine z_starte (cc := cX9_recall) (maxL := 3) (ret := (some .int)) (by decide) rfl (Nat.le_of_ble_eq_true rfl) ?_
  intro Pg En s Mi below meth Cd A hx hb hr hts hown hlocks hml hnt hA hT hZ H hH hP hK hD hS ls hl
  have hl : lv_has ls 3 [(0, .ref (xa 0)), (1, .int x)] := hl
  rw [zf_one] at hP hD
  have hP : va_P E.1 vwCl ([[((xa 0), .inr (8, [.ref (na 0), .ref (xa 3), .ref (xa 5), .ref (xa 6), .ref (xa 1)]))], [((xa 1), .inr (6, [.ref (xa 2), .int ln]))], [((xa 2), .inl (E.2 0, 60, .inl tx))], [((xa 3), .inr (3, [.ref (xa 4), .int nx, .int ct]))], [((xa 4), .inl (E.2 2, 6, .inr (.inr (.inr (.inr (z_pl ad 6))))))], [((xa 5), .inr (2, [.ref (ma 0), .int f0]))], [((xa 6), .inr (2, [.ref (mb 0), .int f1]))], z_St E na g, z_St E ma ga, z_St E mb gb, z_SS E ad v 6] : List va_W).flatten H := hP
  have hD : va_D A ([[((xa 0), .inr (8, [.ref (na 0), .ref (xa 3), .ref (xa 5), .ref (xa 6), .ref (xa 1)]))], [((xa 1), .inr (6, [.ref (xa 2), .int ln]))], [((xa 2), .inl (E.2 0, 60, .inl tx))], [((xa 3), .inr (3, [.ref (xa 4), .int nx, .int ct]))], [((xa 4), .inl (E.2 2, 6, .inr (.inr (.inr (.inr (z_pl ad 6))))))], [((xa 5), .inr (2, [.ref (ma 0), .int f0]))], [((xa 6), .inr (2, [.ref (mb 0), .int f1]))], z_St E na g, z_St E ma ga, z_St E mb gb, z_SS E ad v 6] : List va_W).flatten := hD
  have hi_X3 : ∀ w ∈ wsX30, w ∈ wsX9_recall := by decide +kernel
  have hi_X9 : ∀ w ∈ wsX90, w ∈ wsX9_recall := by decide +kernel
  refine lv_iload_n hx hb dX9_recall_0 rfl (lv_at hl 1 rfl) ?_
  refine lv_iconst (v := 0) hx hb dX9_recall_1 (by decide) ?_
  refine lv_iconst (v := 1) hx hb dX9_recall_2 (by decide) ?_
  have hPc : va_P E.1 vwCl ([] : List va_W).flatten H := zf_sub hP [] rfl
  have hDc : va_D A ([] : List va_W).flatten := zf_subD hD [] (by decide) rfl
  refine z_xmut (Sc := []) (Sr := [[((xa 0), .inr (8, [.ref (na 0), .ref (xa 3), .ref (xa 5), .ref (xa 6), .ref (xa 1)]))], [((xa 1), .inr (6, [.ref (xa 2), .int ln]))], [((xa 2), .inl (E.2 0, 60, .inl tx))], [((xa 3), .inr (3, [.ref (xa 4), .int nx, .int ct]))], [((xa 4), .inl (E.2 2, 6, .inr (.inr (.inr (.inr (z_pl ad 6))))))], [((xa 5), .inr (2, [.ref (ma 0), .int f0]))], [((xa 6), .inr (2, [.ref (mb 0), .int f1]))], z_St E na g, z_St E ma ga, z_St E mb gb, z_SS E ad v 6]) (W1 := []) (vx_runS (As := [.int x, .int 0, .int 1]) (rest := []) ⟨hx, hb, hml, hown, hts⟩ (c_X9_refuseOutside l E sa hl0 x 0 1 H.size) (va_cwS 3 hts gX9_recall_X9_refuseOutside rfl rfl rfl (by decide +kernel) ⟨Nat.le_of_ble_eq_true rfl, Nat.le_of_ble_eq_true rfl⟩) ⟨zPE.blind, z_preE hK hT hZ hS (zf_free hD hS hA [] rfl) hPc hDc⟩ rfl rfl hl.1 rfl (lv_room (Nat.le_of_ble_eq_true rfl)) dX9_recall_3 ⟨Nat.le_of_ble_eq_true rfl, Nat.le_of_ble_eq_true rfl⟩) hP hD hS hA [] [0, 1, 2, 3, 4, 5, 6, 7, 8, 9, 10] rfl rfl (by decide) (by decide) (fun Ex ce q9 H locs hps hP hD hS hce hcv hcl => ?_) (fun H locs hph3 hP hD hS => ?_)
  · have hP : va_P E.1 vwCl ([[((xa 0), .inr (8, [.ref (na 0), .ref (xa 3), .ref (xa 5), .ref (xa 6), .ref (xa 1)]))], [((xa 1), .inr (6, [.ref (xa 2), .int ln]))], [((xa 2), .inl (E.2 0, 60, .inl tx))], [((xa 3), .inr (3, [.ref (xa 4), .int nx, .int ct]))], [((xa 4), .inl (E.2 2, 6, .inr (.inr (.inr (.inr (z_pl ad 6))))))], [((xa 5), .inr (2, [.ref (ma 0), .int f0]))], [((xa 6), .inr (2, [.ref (mb 0), .int f1]))], z_St E na g, z_St E ma ga, z_St E mb gb, z_SS E ad v 6] : List va_W).flatten H := zf_sub hP [0, 1, 2, 3, 4, 5, 6, 7, 8, 9, 10] rfl
    have hD : va_D A ([[((xa 0), .inr (8, [.ref (na 0), .ref (xa 3), .ref (xa 5), .ref (xa 6), .ref (xa 1)]))], [((xa 1), .inr (6, [.ref (xa 2), .int ln]))], [((xa 2), .inl (E.2 0, 60, .inl tx))], [((xa 3), .inr (3, [.ref (xa 4), .int nx, .int ct]))], [((xa 4), .inl (E.2 2, 6, .inr (.inr (.inr (.inr (z_pl ad 6))))))], [((xa 5), .inr (2, [.ref (ma 0), .int f0]))], [((xa 6), .inr (2, [.ref (mb 0), .int f1]))], z_St E na g, z_St E ma ga, z_St E mb gb, z_SS E ad v 6] : List va_W).flatten := zf_subD hD [0, 1, 2, 3, 4, 5, 6, 7, 8, 9, 10] (by decide) rfl
    exact z_outE hnt hlocks hce hcv hcl (Or.inl hps) hP hD hS (by rw [zf_one]; rfl) (by decide) (by decide)
  have hP : va_P E.1 vwCl ([[((xa 0), .inr (8, [.ref (na 0), .ref (xa 3), .ref (xa 5), .ref (xa 6), .ref (xa 1)]))], [((xa 1), .inr (6, [.ref (xa 2), .int ln]))], [((xa 2), .inl (E.2 0, 60, .inl tx))], [((xa 3), .inr (3, [.ref (xa 4), .int nx, .int ct]))], [((xa 4), .inl (E.2 2, 6, .inr (.inr (.inr (.inr (z_pl ad 6))))))], [((xa 5), .inr (2, [.ref (ma 0), .int f0]))], [((xa 6), .inr (2, [.ref (mb 0), .int f1]))], z_St E na g, z_St E ma ga, z_St E mb gb, z_SS E ad v 6] : List va_W).flatten H := hP
  have hD : va_D A ([[((xa 0), .inr (8, [.ref (na 0), .ref (xa 3), .ref (xa 5), .ref (xa 6), .ref (xa 1)]))], [((xa 1), .inr (6, [.ref (xa 2), .int ln]))], [((xa 2), .inl (E.2 0, 60, .inl tx))], [((xa 3), .inr (3, [.ref (xa 4), .int nx, .int ct]))], [((xa 4), .inl (E.2 2, 6, .inr (.inr (.inr (.inr (z_pl ad 6))))))], [((xa 5), .inr (2, [.ref (ma 0), .int f0]))], [((xa 6), .inr (2, [.ref (mb 0), .int f1]))], z_St E na g, z_St E ma ga, z_St E mb gb, z_SS E ad v 6] : List va_W).flatten := hD
  refine W.widen (k := 1) (n := 6) (by decide) (by decide) ?_
  refine W.eq (g2 := F0 Mi 6 ls []) rfl ?_
  by_cases hi : x = 0
  · refine lv_aload_n hx hb dX9_recall_6 rfl (lv_at hl 0 rfl) ?_
    refine lv_iload_n hx hb dX9_recall_7 rfl (lv_at hl 1 rfl) ?_
    have hPc : va_P E.1 vwCl ([[((xa 0), .inr (8, [.ref (na 0), .ref (xa 3), .ref (xa 5), .ref (xa 6), .ref (xa 1)]))]] : List va_W).flatten H := zf_sub hP [0] rfl
    refine z_rdv (va_runV (As := [.int x]) (rest := []) ⟨hx, hb, hml, hown, hts⟩ (c_X9_memoryOf0 l E (xa 0) (na 0) (xa 3) (xa 5) (xa 6) (xa 1) x hi) (cwV 1 hts gX9_recall_X9_memoryOf rfl rfl rfl (by decide +kernel) ⟨Nat.le_of_ble_eq_true rfl, Nat.le_of_ble_eq_true rfl⟩) ⟨zPr.blind, va_recv hK.1 hPc (ci := 8) (q0 := 0) rfl rfl, z_prer hK hPc⟩ rfl rfl hl.1 rfl (lv_room (Nat.le_of_ble_eq_true rfl)) dX9_recall_8 ⟨Nat.le_of_ble_eq_true rfl, Nat.le_of_ble_eq_true rfl⟩) ?_
    refine W.eq (g2 := F0 Mi 11 ls [.ref (xa 5)]) rfl ?_
    refine lv_astore_n (lv' := [(2, .ref (xa 5)), (0, .ref (xa 0)), (1, .int x)]) hx hb dX9_recall_11 rfl hl (by decide) rfl (fun ls hl => ?_)
    refine lv_aload_n hx hb dX9_recall_12 rfl (lv_at hl 0 rfl) ?_
    refine va_get (D := E.1) (ci := 2) (v := .int f0) (C := RX3) (T := TX3) (N := 2) hx hb hts hi_X3 hown hK.1 hP 5 rfl rfl 1 (by decide) (hts (.fieldLink RX9 227 "AltimeterWatch$Memory" "filled" "Z") (by decide +kernel)) (fun _ h9 => h9) rfl dX9_recall_13 ?_
    refine lv_if_ne (tgt := 29) hx hb dX9_recall_16 (by decide) (fun c_16 => ?_) (fun c_16 => ?_)
    · refine lv_aload_n hx hb dX9_recall_29 rfl (lv_at hl 1 rfl) ?_
      refine va_get (D := E.1) (ci := 8) (v := .ref (xa 3)) (C := RX9) (T := TX9) (N := 5) hx hb hts hi_X9 hown hK.1 hP 0 rfl rfl 1 (by decide) (hts (.fieldLink RX9 19 "AltimeterWatch" "saved" "LAltimeterWatch$SavedStates;") (by decide +kernel)) (fun _ h9 => h9) rfl dX9_recall_30 ?_
      refine lv_aload_n hx hb dX9_recall_33 rfl (lv_at hl 1 rfl) ?_
      refine va_get (D := E.1) (ci := 8) (v := .ref (na 0)) (C := RX9) (T := TX9) (N := 5) hx hb hts hi_X9 hown hK.1 hP 0 rfl rfl 0 (by decide) (hts (.fieldLink RX9 10 "AltimeterWatch" "now" "LAltimeterWatch$State;") (by decide +kernel)) (fun _ h9 => h9) rfl dX9_recall_34 ?_
      have hPc : va_P E.1 vwCl ([[((xa 3), .inr (3, [.ref (xa 4), .int nx, .int ct]))], [((xa 4), .inl (E.2 2, 6, .inr (.inr (.inr (.inr (z_pl ad 6))))))], z_St E na g, z_SS E ad v 6] : List va_W).flatten H := zf_sub hP [3, 4, 7, 10] rfl
      have hDc : va_D A ([[((xa 3), .inr (3, [.ref (xa 4), .int nx, .int ct]))], [((xa 4), .inl (E.2 2, 6, .inr (.inr (.inr (.inr (z_pl ad 6))))))], z_St E na g, z_SS E ad v 6] : List va_W).flatten := zf_subD hD [3, 4, 7, 10] (by decide) rfl
      refine z_mut (Sc := [[((xa 3), .inr (3, [.ref (xa 4), .int nx, .int ct]))], [((xa 4), .inl (E.2 2, 6, .inr (.inr (.inr (.inr (z_pl ad 6))))))], z_St E na g, z_SS E ad v 6]) (Sr := [[((xa 0), .inr (8, [.ref (na 0), .ref (xa 3), .ref (xa 5), .ref (xa 6), .ref (xa 1)]))], [((xa 1), .inr (6, [.ref (xa 2), .int ln]))], [((xa 2), .inl (E.2 0, 60, .inl tx))], [((xa 5), .inr (2, [.ref (ma 0), .int f0]))], [((xa 6), .inr (2, [.ref (mb 0), .int f1]))], z_St E ma ga, z_St E mb gb]) (W1 := [[((xa 3), .inr (3, [.ref (xa 4), .int (nI ((m_n nx + 1) % 6)), .int (nI (if m_n ct < 6 then m_n ct + 1 else 6))]))], [((xa 4), .inl (E.2 2, 6, .inr (.inr (.inr (.inr (z_pl ad 6))))))], z_St E na g, z_SS E ad (va_up v (m_n nx) g) 6]) (va_runV (As := [.ref (na 0)]) (rest := []) ⟨hx, hb, hml, hown, hts⟩ (c_X4_save l E (xa 3) (xa 4) (m_n nx) (m_n ct) na nx ct ad v g hw.2.1.1 hw.2.1.2 hw.2.2.1.1 hw.2.2.1.2 hw.1.2.2.1 hw.1.2.2.2 H.size) (cwV 1 hts gX9_recall_X4_save rfl rfl rfl (by decide +kernel) ⟨Nat.le_of_ble_eq_true rfl, Nat.le_of_ble_eq_true rfl⟩) ⟨zP.blind, va_recv hK.1 hPc (ci := 3) (q0 := 0) rfl rfl, z_pre hK hPc hDc⟩ rfl rfl hl.1 rfl (lv_room (Nat.le_of_ble_eq_true rfl)) dX9_recall_37 ⟨Nat.le_of_ble_eq_true rfl, Nat.le_of_ble_eq_true rfl⟩) hP hD hS hA [3, 4, 7, 10] [0, 1, 2, 5, 6, 8, 9] rfl rfl (by decide) (by decide) (fun H locs hP hD hS => ?_)
      have hP : va_P E.1 vwCl ([[((xa 0), .inr (8, [.ref (na 0), .ref (xa 3), .ref (xa 5), .ref (xa 6), .ref (xa 1)]))], [((xa 1), .inr (6, [.ref (xa 2), .int ln]))], [((xa 2), .inl (E.2 0, 60, .inl tx))], [((xa 5), .inr (2, [.ref (ma 0), .int f0]))], [((xa 6), .inr (2, [.ref (mb 0), .int f1]))], z_St E ma ga, z_St E mb gb, [((xa 3), .inr (3, [.ref (xa 4), .int (nI ((m_n nx + 1) % 6)), .int (nI (if m_n ct < 6 then m_n ct + 1 else 6))]))], [((xa 4), .inl (E.2 2, 6, .inr (.inr (.inr (.inr (z_pl ad 6))))))], z_St E na g, z_SS E ad (va_up v (m_n nx) g) 6] : List va_W).flatten H := hP
      have hD : va_D A ([[((xa 0), .inr (8, [.ref (na 0), .ref (xa 3), .ref (xa 5), .ref (xa 6), .ref (xa 1)]))], [((xa 1), .inr (6, [.ref (xa 2), .int ln]))], [((xa 2), .inl (E.2 0, 60, .inl tx))], [((xa 5), .inr (2, [.ref (ma 0), .int f0]))], [((xa 6), .inr (2, [.ref (mb 0), .int f1]))], z_St E ma ga, z_St E mb gb, [((xa 3), .inr (3, [.ref (xa 4), .int (nI ((m_n nx + 1) % 6)), .int (nI (if m_n ct < 6 then m_n ct + 1 else 6))]))], [((xa 4), .inl (E.2 2, 6, .inr (.inr (.inr (.inr (z_pl ad 6))))))], z_St E na g, z_SS E ad (va_up v (m_n nx) g) 6] : List va_W).flatten := hD
      refine W.eq (g2 := F0 Mi 40 ls []) rfl ?_
      refine lv_aload_n hx hb dX9_recall_40 rfl (lv_at hl 1 rfl) ?_
      refine va_get (D := E.1) (ci := 8) (v := .ref (na 0)) (C := RX9) (T := TX9) (N := 5) hx hb hts hi_X9 hown hK.1 hP 0 rfl rfl 0 (by decide) (hts (.fieldLink RX9 10 "AltimeterWatch" "now" "LAltimeterWatch$State;") (by decide +kernel)) (fun _ h9 => h9) rfl dX9_recall_41 ?_
      refine lv_aload_n hx hb dX9_recall_44 rfl (lv_at hl 0 rfl) ?_
      refine va_get (D := E.1) (ci := 2) (v := .ref (ma 0)) (C := RX3) (T := TX3) (N := 2) hx hb hts hi_X3 hown hK.1 hP 3 rfl rfl 0 (by decide) (hts (.fieldLink RX9 221 "AltimeterWatch$Memory" "kept" "LAltimeterWatch$State;") (by decide +kernel)) (fun _ h9 => h9) rfl dX9_recall_45 ?_
      have hPc : va_P E.1 vwCl ([z_St E na g, z_St E ma ga] : List va_W).flatten H := zf_sub hP [9, 5] rfl
      have hDc : va_D A ([z_St E na g, z_St E ma ga] : List va_W).flatten := zf_subD hD [9, 5] (by decide) rfl
      refine z_mut (Sc := [z_St E na g, z_St E ma ga]) (Sr := [[((xa 0), .inr (8, [.ref (na 0), .ref (xa 3), .ref (xa 5), .ref (xa 6), .ref (xa 1)]))], [((xa 1), .inr (6, [.ref (xa 2), .int ln]))], [((xa 2), .inl (E.2 0, 60, .inl tx))], [((xa 5), .inr (2, [.ref (ma 0), .int f0]))], [((xa 6), .inr (2, [.ref (mb 0), .int f1]))], z_St E mb gb, [((xa 3), .inr (3, [.ref (xa 4), .int (nI ((m_n nx + 1) % 6)), .int (nI (if m_n ct < 6 then m_n ct + 1 else 6))]))], [((xa 4), .inl (E.2 2, 6, .inr (.inr (.inr (.inr (z_pl ad 6))))))], z_SS E ad (va_up v (m_n nx) g) 6]) (W1 := [z_St E na ga, z_St E ma ga]) (va_runV (As := [.ref (ma 0)]) (rest := []) ⟨hx, hb, hml, hown, hts⟩ (c_X5_copyFrom l E na ma g ga hw.2.2.2.2.2.2.1.1 hw.2.2.2.2.2.2.1.2 H.size) (cwV 1 hts gX9_recall_X5_copyFrom rfl rfl rfl (by decide +kernel) ⟨Nat.le_of_ble_eq_true rfl, Nat.le_of_ble_eq_true rfl⟩) ⟨zP.blind, va_recv hK.1 hPc (ci := 4) (q0 := 0) rfl rfl, z_pre hK hPc hDc⟩ rfl rfl hl.1 rfl (lv_room (Nat.le_of_ble_eq_true rfl)) dX9_recall_48 ⟨Nat.le_of_ble_eq_true rfl, Nat.le_of_ble_eq_true rfl⟩) hP hD hS hA [9, 5] [0, 1, 2, 3, 4, 6, 7, 8, 10] rfl rfl (by decide) (by decide) (fun H locs hP hD hS => ?_)
      have hP : va_P E.1 vwCl ([[((xa 0), .inr (8, [.ref (na 0), .ref (xa 3), .ref (xa 5), .ref (xa 6), .ref (xa 1)]))], [((xa 1), .inr (6, [.ref (xa 2), .int ln]))], [((xa 2), .inl (E.2 0, 60, .inl tx))], [((xa 5), .inr (2, [.ref (ma 0), .int f0]))], [((xa 6), .inr (2, [.ref (mb 0), .int f1]))], z_St E mb gb, [((xa 3), .inr (3, [.ref (xa 4), .int (nI ((m_n nx + 1) % 6)), .int (nI (if m_n ct < 6 then m_n ct + 1 else 6))]))], [((xa 4), .inl (E.2 2, 6, .inr (.inr (.inr (.inr (z_pl ad 6))))))], z_SS E ad (va_up v (m_n nx) g) 6, z_St E na ga, z_St E ma ga] : List va_W).flatten H := hP
      have hD : va_D A ([[((xa 0), .inr (8, [.ref (na 0), .ref (xa 3), .ref (xa 5), .ref (xa 6), .ref (xa 1)]))], [((xa 1), .inr (6, [.ref (xa 2), .int ln]))], [((xa 2), .inl (E.2 0, 60, .inl tx))], [((xa 5), .inr (2, [.ref (ma 0), .int f0]))], [((xa 6), .inr (2, [.ref (mb 0), .int f1]))], z_St E mb gb, [((xa 3), .inr (3, [.ref (xa 4), .int (nI ((m_n nx + 1) % 6)), .int (nI (if m_n ct < 6 then m_n ct + 1 else 6))]))], [((xa 4), .inl (E.2 2, 6, .inr (.inr (.inr (.inr (z_pl ad 6))))))], z_SS E ad (va_up v (m_n nx) g) 6, z_St E na ga, z_St E ma ga] : List va_W).flatten := hD
      have hP : va_P E.1 vwCl ([[((xa 0), .inr (8, [.ref (na 0), .ref (xa 3), .ref (xa 5), .ref (xa 6), .ref (xa 1)]))], [((xa 1), .inr (6, [.ref (xa 2), .int ln]))], [((xa 2), .inl (E.2 0, 60, .inl tx))], [((xa 5), .inr (2, [.ref (ma 0), .int f0]))], [((xa 6), .inr (2, [.ref (mb 0), .int f1]))], z_St E mb gb, [((xa 3), .inr (3, [.ref (xa 4), .int (nI ((m_n nx + 1) % 6)), .int (nI (if m_n ct < 6 then m_n ct + 1 else 6))]))], [((xa 4), .inl (E.2 2, 6, .inr (.inr (.inr (.inr (z_pl ad 6))))))], z_St E na ga, z_St E ma ga, z_SS E ad (va_up v (m_n nx) g) 6] : List va_W).flatten H := zf_sub hP [0, 1, 2, 3, 4, 5, 6, 7, 9, 10, 8] rfl
      have hD : va_D A ([[((xa 0), .inr (8, [.ref (na 0), .ref (xa 3), .ref (xa 5), .ref (xa 6), .ref (xa 1)]))], [((xa 1), .inr (6, [.ref (xa 2), .int ln]))], [((xa 2), .inl (E.2 0, 60, .inl tx))], [((xa 5), .inr (2, [.ref (ma 0), .int f0]))], [((xa 6), .inr (2, [.ref (mb 0), .int f1]))], z_St E mb gb, [((xa 3), .inr (3, [.ref (xa 4), .int (nI ((m_n nx + 1) % 6)), .int (nI (if m_n ct < 6 then m_n ct + 1 else 6))]))], [((xa 4), .inl (E.2 2, 6, .inr (.inr (.inr (.inr (z_pl ad 6))))))], z_St E na ga, z_St E ma ga, z_SS E ad (va_up v (m_n nx) g) 6] : List va_W).flatten := zf_subD hD [0, 1, 2, 3, 4, 5, 6, 7, 9, 10, 8] (by decide) rfl
      refine W.eq (g2 := F0 Mi 51 ls []) rfl ?_
      refine lv_aload_n hx hb dX9_recall_51 rfl (lv_at hl 1 rfl) ?_
      refine va_get (D := E.1) (ci := 8) (v := .ref (na 0)) (C := RX9) (T := TX9) (N := 5) hx hb hts hi_X9 hown hK.1 hP 0 rfl rfl 0 (by decide) (hts (.fieldLink RX9 10 "AltimeterWatch" "now" "LAltimeterWatch$State;") (by decide +kernel)) (fun _ h9 => h9) rfl dX9_recall_52 ?_
      have hPc : va_P E.1 vwCl ([z_St E na ga] : List va_W).flatten H := zf_sub hP [8] rfl
      refine z_rdv (va_runV (As := []) (rest := []) ⟨hx, hb, hml, hown, hts⟩ (c_X5_heightS l E na ga) (cwV 0 hts gX9_recall_X5_height rfl rfl rfl (by decide +kernel) ⟨Nat.le_of_ble_eq_true rfl, Nat.le_of_ble_eq_true rfl⟩) ⟨zPr.blind, va_recv hK.1 hPc (ci := 4) (q0 := 0) rfl rfl, z_prer hK hPc⟩ rfl rfl hl.1 rfl (lv_room (Nat.le_of_ble_eq_true rfl)) dX9_recall_55 ⟨Nat.le_of_ble_eq_true rfl, Nat.le_of_ble_eq_true rfl⟩) ?_
      refine W.eq (g2 := F0 Mi 58 ls [.int (m_std (ga 0) - m_std (ga 1))]) rfl ?_
      refine z_topi (y := m_std ((if x = 0 then ga else gb) 0) - m_std ((if x = 0 then ga else gb) 1)) (by simp only [if_pos hi]) ?_
      have hP : va_P E.1 vwCl ([[((xa 0), .inr (8, [.ref (na 0), .ref (xa 3), .ref (xa 5), .ref (xa 6), .ref (xa 1)]))], [((xa 1), .inr (6, [.ref (xa 2), .int ln]))], [((xa 2), .inl (E.2 0, 60, .inl tx))], [((xa 3), .inr (3, [.ref (xa 4), .int (nI ((m_n nx + 1) % 6)), .int (nI (if m_n ct < 6 then m_n ct + 1 else 6))]))], [((xa 4), .inl (E.2 2, 6, .inr (.inr (.inr (.inr (z_pl ad 6))))))], [((xa 5), .inr (2, [.ref (ma 0), .int f0]))], [((xa 6), .inr (2, [.ref (mb 0), .int f1]))], z_St E na ga, z_St E ma ga, z_St E mb gb, z_SS E ad (va_up v (m_n nx) g) 6] : List va_W).flatten H := zf_sub hP [0, 1, 2, 6, 7, 3, 4, 8, 9, 5, 10] rfl
      have hD : va_D A ([[((xa 0), .inr (8, [.ref (na 0), .ref (xa 3), .ref (xa 5), .ref (xa 6), .ref (xa 1)]))], [((xa 1), .inr (6, [.ref (xa 2), .int ln]))], [((xa 2), .inl (E.2 0, 60, .inl tx))], [((xa 3), .inr (3, [.ref (xa 4), .int (nI ((m_n nx + 1) % 6)), .int (nI (if m_n ct < 6 then m_n ct + 1 else 6))]))], [((xa 4), .inl (E.2 2, 6, .inr (.inr (.inr (.inr (z_pl ad 6))))))], [((xa 5), .inr (2, [.ref (ma 0), .int f0]))], [((xa 6), .inr (2, [.ref (mb 0), .int f1]))], z_St E na ga, z_St E ma ga, z_St E mb gb, z_SS E ad (va_up v (m_n nx) g) 6] : List va_W).flatten := zf_subD hD [0, 1, 2, 6, 7, 3, 4, 8, 9, 5, 10] (by decide) rfl
      refine W.widen (k := 2) (n := 12) (by decide) (by decide) ?_
      refine vx_ret ?_
      exact W.iret (v := m_std ((if x = 0 then ga else gb) 0) - m_std ((if x = 0 then ga else gb) 1)) hx hb hr (z_ende ⟨hph3, (by rw [if_pos hi]; exact c_16)⟩ hP hD hS (by rw [zf_one]; simp only [if_pos hi]; rfl)) hS.2.2 dX9_recall_58 hlocks
    · refine z_throw (own := RX9) (cls := zIS) (names := zUp) (ik := 174) (is := 230) (ic := 178) hx hb hl0 hown (by decide) (by decide) (hts (.classLink RX9 174 zIS) (by decide +kernel)) (hts (.initialized zIS) (by decide +kernel)) hT.2.2.2.2.2.2.2.2.2.1 (hT.hS hts (by decide +kernel)) (by decide +kernel) hZ hP hD hS (by rw [hml]; exact hl.1) hnt dX9_recall_19 dX9_recall_22 dX9_recall_23 dX9_recall_25 dX9_recall_28 (by decide) (Nat.le_of_ble_eq_true rfl) (Nat.le_of_ble_eq_true rfl) (Nat.le_of_ble_eq_true rfl) hlocks (Or.inr ⟨rfl, hph3, (by first | (rw [if_pos hi]; exact c_16) | (rw [if_neg hi]; exact c_16))⟩) (by rw [zf_one]; rfl) (by decide) (by decide)
  · refine lv_aload_n hx hb dX9_recall_6 rfl (lv_at hl 0 rfl) ?_
    refine lv_iload_n hx hb dX9_recall_7 rfl (lv_at hl 1 rfl) ?_
    have hPc : va_P E.1 vwCl ([[((xa 0), .inr (8, [.ref (na 0), .ref (xa 3), .ref (xa 5), .ref (xa 6), .ref (xa 1)]))]] : List va_W).flatten H := zf_sub hP [0] rfl
    refine z_rdv (va_runV (As := [.int x]) (rest := []) ⟨hx, hb, hml, hown, hts⟩ (c_X9_memoryOf1 l E (xa 0) (na 0) (xa 3) (xa 5) (xa 6) (xa 1) x hi) (cwV 1 hts gX9_recall_X9_memoryOf rfl rfl rfl (by decide +kernel) ⟨Nat.le_of_ble_eq_true rfl, Nat.le_of_ble_eq_true rfl⟩) ⟨zPr.blind, va_recv hK.1 hPc (ci := 8) (q0 := 0) rfl rfl, z_prer hK hPc⟩ rfl rfl hl.1 rfl (lv_room (Nat.le_of_ble_eq_true rfl)) dX9_recall_8 ⟨Nat.le_of_ble_eq_true rfl, Nat.le_of_ble_eq_true rfl⟩) ?_
    refine W.eq (g2 := F0 Mi 11 ls [.ref (xa 6)]) rfl ?_
    refine lv_astore_n (lv' := [(2, .ref (xa 6)), (0, .ref (xa 0)), (1, .int x)]) hx hb dX9_recall_11 rfl hl (by decide) rfl (fun ls hl => ?_)
    refine lv_aload_n hx hb dX9_recall_12 rfl (lv_at hl 0 rfl) ?_
    refine va_get (D := E.1) (ci := 2) (v := .int f1) (C := RX3) (T := TX3) (N := 2) hx hb hts hi_X3 hown hK.1 hP 6 rfl rfl 1 (by decide) (hts (.fieldLink RX9 227 "AltimeterWatch$Memory" "filled" "Z") (by decide +kernel)) (fun _ h9 => h9) rfl dX9_recall_13 ?_
    refine lv_if_ne (tgt := 29) hx hb dX9_recall_16 (by decide) (fun c_16 => ?_) (fun c_16 => ?_)
    · refine lv_aload_n hx hb dX9_recall_29 rfl (lv_at hl 1 rfl) ?_
      refine va_get (D := E.1) (ci := 8) (v := .ref (xa 3)) (C := RX9) (T := TX9) (N := 5) hx hb hts hi_X9 hown hK.1 hP 0 rfl rfl 1 (by decide) (hts (.fieldLink RX9 19 "AltimeterWatch" "saved" "LAltimeterWatch$SavedStates;") (by decide +kernel)) (fun _ h9 => h9) rfl dX9_recall_30 ?_
      refine lv_aload_n hx hb dX9_recall_33 rfl (lv_at hl 1 rfl) ?_
      refine va_get (D := E.1) (ci := 8) (v := .ref (na 0)) (C := RX9) (T := TX9) (N := 5) hx hb hts hi_X9 hown hK.1 hP 0 rfl rfl 0 (by decide) (hts (.fieldLink RX9 10 "AltimeterWatch" "now" "LAltimeterWatch$State;") (by decide +kernel)) (fun _ h9 => h9) rfl dX9_recall_34 ?_
      have hPc : va_P E.1 vwCl ([[((xa 3), .inr (3, [.ref (xa 4), .int nx, .int ct]))], [((xa 4), .inl (E.2 2, 6, .inr (.inr (.inr (.inr (z_pl ad 6))))))], z_St E na g, z_SS E ad v 6] : List va_W).flatten H := zf_sub hP [3, 4, 7, 10] rfl
      have hDc : va_D A ([[((xa 3), .inr (3, [.ref (xa 4), .int nx, .int ct]))], [((xa 4), .inl (E.2 2, 6, .inr (.inr (.inr (.inr (z_pl ad 6))))))], z_St E na g, z_SS E ad v 6] : List va_W).flatten := zf_subD hD [3, 4, 7, 10] (by decide) rfl
      refine z_mut (Sc := [[((xa 3), .inr (3, [.ref (xa 4), .int nx, .int ct]))], [((xa 4), .inl (E.2 2, 6, .inr (.inr (.inr (.inr (z_pl ad 6))))))], z_St E na g, z_SS E ad v 6]) (Sr := [[((xa 0), .inr (8, [.ref (na 0), .ref (xa 3), .ref (xa 5), .ref (xa 6), .ref (xa 1)]))], [((xa 1), .inr (6, [.ref (xa 2), .int ln]))], [((xa 2), .inl (E.2 0, 60, .inl tx))], [((xa 5), .inr (2, [.ref (ma 0), .int f0]))], [((xa 6), .inr (2, [.ref (mb 0), .int f1]))], z_St E ma ga, z_St E mb gb]) (W1 := [[((xa 3), .inr (3, [.ref (xa 4), .int (nI ((m_n nx + 1) % 6)), .int (nI (if m_n ct < 6 then m_n ct + 1 else 6))]))], [((xa 4), .inl (E.2 2, 6, .inr (.inr (.inr (.inr (z_pl ad 6))))))], z_St E na g, z_SS E ad (va_up v (m_n nx) g) 6]) (va_runV (As := [.ref (na 0)]) (rest := []) ⟨hx, hb, hml, hown, hts⟩ (c_X4_save l E (xa 3) (xa 4) (m_n nx) (m_n ct) na nx ct ad v g hw.2.1.1 hw.2.1.2 hw.2.2.1.1 hw.2.2.1.2 hw.1.2.2.1 hw.1.2.2.2 H.size) (cwV 1 hts gX9_recall_X4_save rfl rfl rfl (by decide +kernel) ⟨Nat.le_of_ble_eq_true rfl, Nat.le_of_ble_eq_true rfl⟩) ⟨zP.blind, va_recv hK.1 hPc (ci := 3) (q0 := 0) rfl rfl, z_pre hK hPc hDc⟩ rfl rfl hl.1 rfl (lv_room (Nat.le_of_ble_eq_true rfl)) dX9_recall_37 ⟨Nat.le_of_ble_eq_true rfl, Nat.le_of_ble_eq_true rfl⟩) hP hD hS hA [3, 4, 7, 10] [0, 1, 2, 5, 6, 8, 9] rfl rfl (by decide) (by decide) (fun H locs hP hD hS => ?_)
      have hP : va_P E.1 vwCl ([[((xa 0), .inr (8, [.ref (na 0), .ref (xa 3), .ref (xa 5), .ref (xa 6), .ref (xa 1)]))], [((xa 1), .inr (6, [.ref (xa 2), .int ln]))], [((xa 2), .inl (E.2 0, 60, .inl tx))], [((xa 5), .inr (2, [.ref (ma 0), .int f0]))], [((xa 6), .inr (2, [.ref (mb 0), .int f1]))], z_St E ma ga, z_St E mb gb, [((xa 3), .inr (3, [.ref (xa 4), .int (nI ((m_n nx + 1) % 6)), .int (nI (if m_n ct < 6 then m_n ct + 1 else 6))]))], [((xa 4), .inl (E.2 2, 6, .inr (.inr (.inr (.inr (z_pl ad 6))))))], z_St E na g, z_SS E ad (va_up v (m_n nx) g) 6] : List va_W).flatten H := hP
      have hD : va_D A ([[((xa 0), .inr (8, [.ref (na 0), .ref (xa 3), .ref (xa 5), .ref (xa 6), .ref (xa 1)]))], [((xa 1), .inr (6, [.ref (xa 2), .int ln]))], [((xa 2), .inl (E.2 0, 60, .inl tx))], [((xa 5), .inr (2, [.ref (ma 0), .int f0]))], [((xa 6), .inr (2, [.ref (mb 0), .int f1]))], z_St E ma ga, z_St E mb gb, [((xa 3), .inr (3, [.ref (xa 4), .int (nI ((m_n nx + 1) % 6)), .int (nI (if m_n ct < 6 then m_n ct + 1 else 6))]))], [((xa 4), .inl (E.2 2, 6, .inr (.inr (.inr (.inr (z_pl ad 6))))))], z_St E na g, z_SS E ad (va_up v (m_n nx) g) 6] : List va_W).flatten := hD
      refine W.eq (g2 := F0 Mi 40 ls []) rfl ?_
      refine lv_aload_n hx hb dX9_recall_40 rfl (lv_at hl 1 rfl) ?_
      refine va_get (D := E.1) (ci := 8) (v := .ref (na 0)) (C := RX9) (T := TX9) (N := 5) hx hb hts hi_X9 hown hK.1 hP 0 rfl rfl 0 (by decide) (hts (.fieldLink RX9 10 "AltimeterWatch" "now" "LAltimeterWatch$State;") (by decide +kernel)) (fun _ h9 => h9) rfl dX9_recall_41 ?_
      refine lv_aload_n hx hb dX9_recall_44 rfl (lv_at hl 0 rfl) ?_
      refine va_get (D := E.1) (ci := 2) (v := .ref (mb 0)) (C := RX3) (T := TX3) (N := 2) hx hb hts hi_X3 hown hK.1 hP 4 rfl rfl 0 (by decide) (hts (.fieldLink RX9 221 "AltimeterWatch$Memory" "kept" "LAltimeterWatch$State;") (by decide +kernel)) (fun _ h9 => h9) rfl dX9_recall_45 ?_
      have hPc : va_P E.1 vwCl ([z_St E na g, z_St E mb gb] : List va_W).flatten H := zf_sub hP [9, 6] rfl
      have hDc : va_D A ([z_St E na g, z_St E mb gb] : List va_W).flatten := zf_subD hD [9, 6] (by decide) rfl
      refine z_mut (Sc := [z_St E na g, z_St E mb gb]) (Sr := [[((xa 0), .inr (8, [.ref (na 0), .ref (xa 3), .ref (xa 5), .ref (xa 6), .ref (xa 1)]))], [((xa 1), .inr (6, [.ref (xa 2), .int ln]))], [((xa 2), .inl (E.2 0, 60, .inl tx))], [((xa 5), .inr (2, [.ref (ma 0), .int f0]))], [((xa 6), .inr (2, [.ref (mb 0), .int f1]))], z_St E ma ga, [((xa 3), .inr (3, [.ref (xa 4), .int (nI ((m_n nx + 1) % 6)), .int (nI (if m_n ct < 6 then m_n ct + 1 else 6))]))], [((xa 4), .inl (E.2 2, 6, .inr (.inr (.inr (.inr (z_pl ad 6))))))], z_SS E ad (va_up v (m_n nx) g) 6]) (W1 := [z_St E na gb, z_St E mb gb]) (va_runV (As := [.ref (mb 0)]) (rest := []) ⟨hx, hb, hml, hown, hts⟩ (c_X5_copyFrom l E na mb g gb hw.2.2.2.2.2.2.2.1.1 hw.2.2.2.2.2.2.2.1.2 H.size) (cwV 1 hts gX9_recall_X5_copyFrom rfl rfl rfl (by decide +kernel) ⟨Nat.le_of_ble_eq_true rfl, Nat.le_of_ble_eq_true rfl⟩) ⟨zP.blind, va_recv hK.1 hPc (ci := 4) (q0 := 0) rfl rfl, z_pre hK hPc hDc⟩ rfl rfl hl.1 rfl (lv_room (Nat.le_of_ble_eq_true rfl)) dX9_recall_48 ⟨Nat.le_of_ble_eq_true rfl, Nat.le_of_ble_eq_true rfl⟩) hP hD hS hA [9, 6] [0, 1, 2, 3, 4, 5, 7, 8, 10] rfl rfl (by decide) (by decide) (fun H locs hP hD hS => ?_)
      have hP : va_P E.1 vwCl ([[((xa 0), .inr (8, [.ref (na 0), .ref (xa 3), .ref (xa 5), .ref (xa 6), .ref (xa 1)]))], [((xa 1), .inr (6, [.ref (xa 2), .int ln]))], [((xa 2), .inl (E.2 0, 60, .inl tx))], [((xa 5), .inr (2, [.ref (ma 0), .int f0]))], [((xa 6), .inr (2, [.ref (mb 0), .int f1]))], z_St E ma ga, [((xa 3), .inr (3, [.ref (xa 4), .int (nI ((m_n nx + 1) % 6)), .int (nI (if m_n ct < 6 then m_n ct + 1 else 6))]))], [((xa 4), .inl (E.2 2, 6, .inr (.inr (.inr (.inr (z_pl ad 6))))))], z_SS E ad (va_up v (m_n nx) g) 6, z_St E na gb, z_St E mb gb] : List va_W).flatten H := hP
      have hD : va_D A ([[((xa 0), .inr (8, [.ref (na 0), .ref (xa 3), .ref (xa 5), .ref (xa 6), .ref (xa 1)]))], [((xa 1), .inr (6, [.ref (xa 2), .int ln]))], [((xa 2), .inl (E.2 0, 60, .inl tx))], [((xa 5), .inr (2, [.ref (ma 0), .int f0]))], [((xa 6), .inr (2, [.ref (mb 0), .int f1]))], z_St E ma ga, [((xa 3), .inr (3, [.ref (xa 4), .int (nI ((m_n nx + 1) % 6)), .int (nI (if m_n ct < 6 then m_n ct + 1 else 6))]))], [((xa 4), .inl (E.2 2, 6, .inr (.inr (.inr (.inr (z_pl ad 6))))))], z_SS E ad (va_up v (m_n nx) g) 6, z_St E na gb, z_St E mb gb] : List va_W).flatten := hD
      have hP : va_P E.1 vwCl ([[((xa 0), .inr (8, [.ref (na 0), .ref (xa 3), .ref (xa 5), .ref (xa 6), .ref (xa 1)]))], [((xa 1), .inr (6, [.ref (xa 2), .int ln]))], [((xa 2), .inl (E.2 0, 60, .inl tx))], [((xa 5), .inr (2, [.ref (ma 0), .int f0]))], [((xa 6), .inr (2, [.ref (mb 0), .int f1]))], z_St E ma ga, [((xa 3), .inr (3, [.ref (xa 4), .int (nI ((m_n nx + 1) % 6)), .int (nI (if m_n ct < 6 then m_n ct + 1 else 6))]))], [((xa 4), .inl (E.2 2, 6, .inr (.inr (.inr (.inr (z_pl ad 6))))))], z_St E na gb, z_St E mb gb, z_SS E ad (va_up v (m_n nx) g) 6] : List va_W).flatten H := zf_sub hP [0, 1, 2, 3, 4, 5, 6, 7, 9, 10, 8] rfl
      have hD : va_D A ([[((xa 0), .inr (8, [.ref (na 0), .ref (xa 3), .ref (xa 5), .ref (xa 6), .ref (xa 1)]))], [((xa 1), .inr (6, [.ref (xa 2), .int ln]))], [((xa 2), .inl (E.2 0, 60, .inl tx))], [((xa 5), .inr (2, [.ref (ma 0), .int f0]))], [((xa 6), .inr (2, [.ref (mb 0), .int f1]))], z_St E ma ga, [((xa 3), .inr (3, [.ref (xa 4), .int (nI ((m_n nx + 1) % 6)), .int (nI (if m_n ct < 6 then m_n ct + 1 else 6))]))], [((xa 4), .inl (E.2 2, 6, .inr (.inr (.inr (.inr (z_pl ad 6))))))], z_St E na gb, z_St E mb gb, z_SS E ad (va_up v (m_n nx) g) 6] : List va_W).flatten := zf_subD hD [0, 1, 2, 3, 4, 5, 6, 7, 9, 10, 8] (by decide) rfl
      refine W.eq (g2 := F0 Mi 51 ls []) rfl ?_
      refine lv_aload_n hx hb dX9_recall_51 rfl (lv_at hl 1 rfl) ?_
      refine va_get (D := E.1) (ci := 8) (v := .ref (na 0)) (C := RX9) (T := TX9) (N := 5) hx hb hts hi_X9 hown hK.1 hP 0 rfl rfl 0 (by decide) (hts (.fieldLink RX9 10 "AltimeterWatch" "now" "LAltimeterWatch$State;") (by decide +kernel)) (fun _ h9 => h9) rfl dX9_recall_52 ?_
      have hPc : va_P E.1 vwCl ([z_St E na gb] : List va_W).flatten H := zf_sub hP [8] rfl
      refine z_rdv (va_runV (As := []) (rest := []) ⟨hx, hb, hml, hown, hts⟩ (c_X5_heightS l E na gb) (cwV 0 hts gX9_recall_X5_height rfl rfl rfl (by decide +kernel) ⟨Nat.le_of_ble_eq_true rfl, Nat.le_of_ble_eq_true rfl⟩) ⟨zPr.blind, va_recv hK.1 hPc (ci := 4) (q0 := 0) rfl rfl, z_prer hK hPc⟩ rfl rfl hl.1 rfl (lv_room (Nat.le_of_ble_eq_true rfl)) dX9_recall_55 ⟨Nat.le_of_ble_eq_true rfl, Nat.le_of_ble_eq_true rfl⟩) ?_
      refine W.eq (g2 := F0 Mi 58 ls [.int (m_std (gb 0) - m_std (gb 1))]) rfl ?_
      refine z_topi (y := m_std ((if x = 0 then ga else gb) 0) - m_std ((if x = 0 then ga else gb) 1)) (by simp only [if_neg hi]) ?_
      have hP : va_P E.1 vwCl ([[((xa 0), .inr (8, [.ref (na 0), .ref (xa 3), .ref (xa 5), .ref (xa 6), .ref (xa 1)]))], [((xa 1), .inr (6, [.ref (xa 2), .int ln]))], [((xa 2), .inl (E.2 0, 60, .inl tx))], [((xa 3), .inr (3, [.ref (xa 4), .int (nI ((m_n nx + 1) % 6)), .int (nI (if m_n ct < 6 then m_n ct + 1 else 6))]))], [((xa 4), .inl (E.2 2, 6, .inr (.inr (.inr (.inr (z_pl ad 6))))))], [((xa 5), .inr (2, [.ref (ma 0), .int f0]))], [((xa 6), .inr (2, [.ref (mb 0), .int f1]))], z_St E na gb, z_St E ma ga, z_St E mb gb, z_SS E ad (va_up v (m_n nx) g) 6] : List va_W).flatten H := zf_sub hP [0, 1, 2, 6, 7, 3, 4, 8, 5, 9, 10] rfl
      have hD : va_D A ([[((xa 0), .inr (8, [.ref (na 0), .ref (xa 3), .ref (xa 5), .ref (xa 6), .ref (xa 1)]))], [((xa 1), .inr (6, [.ref (xa 2), .int ln]))], [((xa 2), .inl (E.2 0, 60, .inl tx))], [((xa 3), .inr (3, [.ref (xa 4), .int (nI ((m_n nx + 1) % 6)), .int (nI (if m_n ct < 6 then m_n ct + 1 else 6))]))], [((xa 4), .inl (E.2 2, 6, .inr (.inr (.inr (.inr (z_pl ad 6))))))], [((xa 5), .inr (2, [.ref (ma 0), .int f0]))], [((xa 6), .inr (2, [.ref (mb 0), .int f1]))], z_St E na gb, z_St E ma ga, z_St E mb gb, z_SS E ad (va_up v (m_n nx) g) 6] : List va_W).flatten := zf_subD hD [0, 1, 2, 6, 7, 3, 4, 8, 5, 9, 10] (by decide) rfl
      refine W.widen (k := 2) (n := 12) (by decide) (by decide) ?_
      refine vx_ret ?_
      exact W.iret (v := m_std ((if x = 0 then ga else gb) 0) - m_std ((if x = 0 then ga else gb) 1)) hx hb hr (z_ende ⟨hph3, (by rw [if_neg hi]; exact c_16)⟩ hP hD hS (by rw [zf_one]; simp only [if_neg hi]; rfl)) hS.2.2 dX9_recall_58 hlocks
    · refine z_throw (own := RX9) (cls := zIS) (names := zUp) (ik := 174) (is := 230) (ic := 178) hx hb hl0 hown (by decide) (by decide) (hts (.classLink RX9 174 zIS) (by decide +kernel)) (hts (.initialized zIS) (by decide +kernel)) hT.2.2.2.2.2.2.2.2.2.1 (hT.hS hts (by decide +kernel)) (by decide +kernel) hZ hP hD hS (by rw [hml]; exact hl.1) hnt dX9_recall_19 dX9_recall_22 dX9_recall_23 dX9_recall_25 dX9_recall_28 (by decide) (Nat.le_of_ble_eq_true rfl) (Nat.le_of_ble_eq_true rfl) (Nat.le_of_ble_eq_true rfl) hlocks (Or.inr ⟨rfl, hph3, (by first | (rw [if_pos hi]; exact c_16) | (rw [if_neg hi]; exact c_16))⟩) (by rw [zf_one]; rfl) (by decide) (by decide)

section ZD
variable {p : Program} {l : Launch} {e : Env} {R : Room} {s : State} {m : MethodId} {args : Array Value} {below : List Frame} {meth : Method} {c : Code} {H : Heap} {locs : List Loc} {cells slots : Nat} {Q : State → Prop}
variable {pc : Nat} {ls : Array Slot} {rest : List Value}
theorem z_topd {x y : UInt64} (h : x = y) (k : W p l e R s m args below meth c H locs cells slots Q (F0 m pc ls (.double y :: rest))) : W p l e R s m args below meth c H locs cells slots Q (F0 m pc ls (.double x :: rest)) := h ▸ k
end ZD
/-- a quotient of whole numbers is a number -/
def z_dv : Prop := ∀ a b : Int32, ¬ b = 0 → vf_n64 (FP.ddiv (FP.i2d a) (FP.i2d b))
def m_shr (x y : Int32) : UInt64 := if x + y = 0 then 4602678819172646912 else FP.ddiv (FP.i2d x) (FP.i2d (x + y))

set_option maxHeartbeats 4000000 in
set_option maxRecDepth 100000 in
theorem c_X9_climbShare (l : Launch) (E : zE) (xa na ma mb : Nat → Nat) (ad : Nat → Nat → Nat) (tx : Nat → Int32) (ln nx ct f0 f1 : Int32) (g ga gb : Nat → Int32) (v : Nat → Nat → Int32) (hw : z_wk ln nx ct f0 f1 g ga gb v) (hdv : z_dv) : zR l yX9_climbShare wsX9_climbShare ({ frames := 0, cells := 0, slots := 0, locals := 0 }) E [.ref (xa 0)] ([(z_W E xa na ma mb ad tx ln nx ct f0 f1 g ga gb v).flatten] : List va_W).flatten (some (.double (m_shr (g 7) (g 8)))) := by
  refine z_startr (cc := cX9_climbShare) (maxL := 2) (ret := (some .double)) (by decide) rfl (Nat.le_of_ble_eq_true rfl) ?_
  intro Pg En s Mi below meth Cd hx hb hr hts hown hlocks hml hP hK ls hl
  have hl : lv_has ls 2 [(0, .ref (xa 0))] := hl
  rw [zf_one] at hP
  have hP : va_P E.1 vwCl ([[((xa 0), .inr (8, [.ref (na 0), .ref (xa 3), .ref (xa 5), .ref (xa 6), .ref (xa 1)]))], [((xa 1), .inr (6, [.ref (xa 2), .int ln]))], [((xa 2), .inl (E.2 0, 60, .inl tx))], [((xa 3), .inr (3, [.ref (xa 4), .int nx, .int ct]))], [((xa 4), .inl (E.2 2, 6, .inr (.inr (.inr (.inr (z_pl ad 6))))))], [((xa 5), .inr (2, [.ref (ma 0), .int f0]))], [((xa 6), .inr (2, [.ref (mb 0), .int f1]))], z_St E na g, z_St E ma ga, z_St E mb gb, z_SS E ad v 6] : List va_W).flatten s.heap := hP
  have hi_X1 : ∀ w ∈ wsX10, w ∈ wsX9_climbShare := by decide +kernel
  have hi_X5 : ∀ w ∈ wsX50, w ∈ wsX9_climbShare := by decide +kernel
  have hi_X9 : ∀ w ∈ wsX90, w ∈ wsX9_climbShare := by decide +kernel
  refine lv_aload_n hx hb dX9_climbShare_0 rfl (lv_at hl 0 rfl) ?_
  refine va_get (D := E.1) (ci := 8) (v := .ref (na 0)) (C := RX9) (T := TX9) (N := 5) hx hb hts hi_X9 hown hK.1 hP 0 rfl rfl 0 (by decide) (hts (.fieldLink RX9 10 "AltimeterWatch" "now" "LAltimeterWatch$State;") (by decide +kernel)) (fun _ h9 => h9) rfl dX9_climbShare_1 ?_
  refine va_get (D := E.1) (ci := 4) (v := .ref (na 1)) (C := RX5) (T := TX5) (N := 10) hx hb hts hi_X5 hown hK.1 hP 7 rfl rfl 7 (by decide) (hts (.fieldLink RX9 94 "AltimeterWatch$State" "climb" "LAltimeterWatch$Climb;") (by decide +kernel)) (fun _ h9 => h9) rfl dX9_climbShare_4 ?_
  refine va_get (D := E.1) (ci := 0) (v := .int (g 7)) (C := RX1) (T := TX1) (N := 4) hx hb hts hi_X1 hown hK.1 hP 8 rfl rfl 1 (by decide) (hts (.fieldLink RX9 103 "AltimeterWatch$Climb" "ascent" "I") (by decide +kernel)) (fun _ h9 => h9) rfl dX9_climbShare_7 ?_
  refine lv_aload_n hx hb dX9_climbShare_10 rfl (lv_at hl 0 rfl) ?_
  refine va_get (D := E.1) (ci := 8) (v := .ref (na 0)) (C := RX9) (T := TX9) (N := 5) hx hb hts hi_X9 hown hK.1 hP 0 rfl rfl 0 (by decide) (hts (.fieldLink RX9 10 "AltimeterWatch" "now" "LAltimeterWatch$State;") (by decide +kernel)) (fun _ h9 => h9) rfl dX9_climbShare_11 ?_
  refine va_get (D := E.1) (ci := 4) (v := .ref (na 1)) (C := RX5) (T := TX5) (N := 10) hx hb hts hi_X5 hown hK.1 hP 7 rfl rfl 7 (by decide) (hts (.fieldLink RX9 94 "AltimeterWatch$State" "climb" "LAltimeterWatch$Climb;") (by decide +kernel)) (fun _ h9 => h9) rfl dX9_climbShare_14 ?_
  refine va_get (D := E.1) (ci := 0) (v := .int (g 8)) (C := RX1) (T := TX1) (N := 4) hx hb hts hi_X1 hown hK.1 hP 8 rfl rfl 2 (by decide) (hts (.fieldLink RX9 106 "AltimeterWatch$Climb" "descent" "I") (by decide +kernel)) (fun _ h9 => h9) rfl dX9_climbShare_17 ?_
  refine lv_iadd hx hb dX9_climbShare_20 ?_
  refine lv_topi (fun f_1 ef_1 => ?_)
  refine lv_istore_n (lv' := [(1, .int f_1), (0, .ref (xa 0))]) hx hb dX9_climbShare_21 rfl hl (by decide) rfl (fun ls hl => ?_)
  refine lv_iload_n hx hb dX9_climbShare_22 rfl (lv_at hl 0 rfl) ?_
  refine lv_if_ne (tgt := 30) hx hb dX9_climbShare_23 (by decide) (fun c_23 => ?_) (fun c_23 => ?_)
  · refine lv_aload_n hx hb dX9_climbShare_30 rfl (lv_at hl 1 rfl) ?_
    refine va_get (D := E.1) (ci := 8) (v := .ref (na 0)) (C := RX9) (T := TX9) (N := 5) hx hb hts hi_X9 hown hK.1 hP 0 rfl rfl 0 (by decide) (hts (.fieldLink RX9 10 "AltimeterWatch" "now" "LAltimeterWatch$State;") (by decide +kernel)) (fun _ h9 => h9) rfl dX9_climbShare_31 ?_
    refine va_get (D := E.1) (ci := 4) (v := .ref (na 1)) (C := RX5) (T := TX5) (N := 10) hx hb hts hi_X5 hown hK.1 hP 7 rfl rfl 7 (by decide) (hts (.fieldLink RX9 94 "AltimeterWatch$State" "climb" "LAltimeterWatch$Climb;") (by decide +kernel)) (fun _ h9 => h9) rfl dX9_climbShare_34 ?_
    refine va_get (D := E.1) (ci := 0) (v := .int (g 7)) (C := RX1) (T := TX1) (N := 4) hx hb hts hi_X1 hown hK.1 hP 8 rfl rfl 1 (by decide) (hts (.fieldLink RX9 103 "AltimeterWatch$Climb" "ascent" "I") (by decide +kernel)) (fun _ h9 => h9) rfl dX9_climbShare_37 ?_
    refine lv_i2d hx hb dX9_climbShare_40 ?_
    refine lv_iload_n hx hb dX9_climbShare_41 rfl (lv_at hl 0 rfl) ?_
    refine lv_i2d hx hb dX9_climbShare_42 ?_
    refine lv_ddiv hx hb dX9_climbShare_43 (hdv _ _ c_23) ?_
    refine z_topd (y := m_shr (g 7) (g 8)) (by rw [m_shr, if_neg (by rw [← ef_1]; exact c_23), ← ef_1]) ?_
    exact W.dret (v := m_shr (g 7) (g 8)) hx hb hr z_endR (fun _ h => by cases h) dX9_climbShare_44 hlocks
  · refine lv_ldc2d hx hb hown (hts (.constantDouble RX9 169 (4602678819172646912)) (by decide +kernel)) dX9_climbShare_26 ?_
    refine z_topd (y := m_shr (g 7) (g 8)) (by rw [m_shr, if_pos (by rw [← ef_1]; exact c_23)]) ?_
    exact W.dret (v := m_shr (g 7) (g 8)) hx hb hr z_endR (fun _ h => by cases h) dX9_climbShare_29 hlocks

def z_xa (a0 a1 a2 a3 a4 a5 a6 : Nat) : Nat → Nat := fun k => if k = 0 then a0 else if k = 1 then a1 else if k = 2 then a2 else if k = 3 then a3 else if k = 4 then a4 else if k = 5 then a5 else a6

