theorem k_un {f : Nat → Int32} {k j : Nat} {v : Int32} (h : j ≠ k) : upd f k v j = f j := if_neg h
theorem k_us {f : Nat → Int32} {k : Nat} {v : Int32} : upd f k v k = v := if_pos rfl
def m_swA (sv : Nat → Int32) (on : Int32) : Nat → Int32 := upd (upd (upd (upd sv 2 on) 14 0) 13 0) (if on = 0 then 9 else 3) (m_std (sv 0) - m_std (sv 1))
def m_stA (sv : Nat → Int32) : Nat → Int32 := upd (upd sv 3 (if sv 2 = 1 then m_std (sv 0) - m_std (sv 1) else sv 3)) 9 (m_std (sv 0) - m_std (sv 1))
def m_caT (sv : Nat → Int32) (a : Int32) : Nat → Int32 := m_stA (upd sv (0 + 1) (m_bst (sv (0 + 0)) a))
def m_caA (sv : Nat → Int32) (a : Int32) : Nat → Int32 := upd (upd (m_caT sv a) 5 ((m_caT sv a) 5 + (m_std (sv (0 + 0)) - m_std (sv (0 + 1)) - a))) 6 ((m_caT sv a) 6 + 1)
def m_s4 (sv : Nat → Int32) : Nat → Nat → Int32
  | 0 => sv
  | k + 1 => upd (m_s4 sv k) (76 + k) ((m_s4 sv k) (76 + k + 4))
theorem m_s4_lo {sv : Nat → Int32} {x : Nat} (hx : x < 76) : ∀ k, m_s4 sv k x = sv x
  | 0 => rfl
  | k + 1 => by
    rw [m_s4, k_un (by omega)]
    exact m_s4_lo hx k
def m_mkN (c : Nat) : Nat := if c = 10 then 9 else c
def m_mkT (sv : Nat → Int32) (c : Nat) : Nat → Int32 := if c = 10 then m_s4 sv 36 else sv
def m_mkA (sv : Nat → Int32) (c : Nat) : Nat → Int32 :=
  upd (upd (upd (upd (upd (upd (m_mkT sv c) 75 (nI (m_mkN c))) (76 + 4 * m_mkN c) (sv 4)) (76 + 4 * m_mkN c + 1) (m_std (sv 0) - m_std (sv 1))) (76 + 4 * m_mkN c + 2) (sv 7)) (76 + 4 * m_mkN c + 3) (sv 8)) 75 (nI (m_mkN c + 1))
def m_cpA (sv : Nat → Int32) (a c : Nat) : Nat → Nat → Int32
  | 0 => sv
  | k + 1 => upd (m_cpA sv a c k) (116 * c + k) ((m_cpA sv a c k) (116 * a + k))
def m_svS (sv : Nat → Int32) : Nat → Nat → Int32
  | 0 => sv
  | k + 1 => m_cpA (m_svS sv k) (k + 1 + 1) (k + 1) 116
theorem m_svS_pos {sv : Nat → Int32} {i : Nat} (h : 1 ≤ i) : m_svS sv i = m_cpA (m_svS sv (i - 1)) (i + 1) i 116 := by
  obtain ⟨j, rfl⟩ : ∃ j, i = j + 1 := ⟨i - 1, by omega⟩
  rfl
def m_svC (d : Nat) : Nat := if d = 6 then 6 else d + 1
def m_svA (sv : Nat → Int32) (d : Nat) : Nat → Int32 := m_cpA (if d = 6 then m_svS sv 5 else sv) 0 (m_svC d) 116

set_option maxHeartbeats 4000000 in
set_option maxRecDepth 100000 in
theorem c_X10_switches (l : Launch) (E : zE) (h0 k1 k2 k3 : Nat) (th sd ln at0 pt mi nu : Int32) (ha : Int64) (sv : Nat → Int32) (on : Int32) (hon : on = 0 ∨ on = 1) : zM l yX10_switches wsX10_switches ({ frames := 2, cells := 0, slots := 0, locals := 42 }) E [.ref h0, .int on] ([[(h0, .inr (9, [.int th, .ref k1, .int sd, .ref k2, .ref k3, .int ln, .int at0, .int pt, .int mi, .int nu, .long ha]))], [(k1, .inl (E.2 0, 1160, .inl sv))]] : List va_W).flatten none ([[(h0, .inr (9, [.int th, .ref k1, .int sd, .ref k2, .ref k3, .int ln, .int at0, .int pt, .int mi, .int nu, .long ha]))], [(k1, .inl (E.2 0, 1160, .inl (m_swA sv on)))]] : List va_W).flatten 0 0 := by
  refine z_start (cc := cX10_switches) (maxL := 2) (ret := none) (by decide) rfl (Nat.le_of_ble_eq_true rfl) ?_
  intro Pg En s Mi below meth Cd A hx hb hr hts hown hlocks hin hml hA H hH hP hK hD hS ls hl
  have hl : lv_has ls 2 [(0, .ref h0), (1, .int on)] := hl
  have hi_X10 : ∀ w ∈ wsX100, w ∈ wsX10_switches := by decide +kernel
  refine lv_aload_n hx hb dX10_switches_0 rfl (lv_at hl 0 rfl) ?_
  refine va_get (D := E.1) (ci := 9) (v := .ref k1) (C := RX10) (T := TX10) (N := 11) hx hb hts hi_X10 hown hK.1 hP 0 rfl rfl 1 (by decide) (hts (.fieldLink RX10 7 "AltimeterWatchModel" "s" "[I") (by decide +kernel)) (fun _ h9 => h9) rfl dX10_switches_1 ?_
  refine lv_iconst (v := 2) hx hb dX10_switches_4 (by decide) ?_
  refine lv_iload_n hx hb dX10_switches_5 rfl (lv_at hl 1 rfl) ?_
  refine lv_if_eq (tgt := 13) hx hb dX10_switches_6 (by decide) (fun c_6 => ?_) (fun c_6 => ?_)
  · refine lv_iconst (v := 0) hx hb dX10_switches_13 (by decide) ?_
    refine z_topi (y := on) c_6.symm ?_
    refine z_iast (k := 2) hx hb hK.1 hP hD hS 1 rfl rfl (by decide) (by decide) dX10_switches_14 (fun H locs hP hD hS => ?_)
    have hP : va_P E.1 vwCl ([[(h0, .inr (9, [.int th, .ref k1, .int sd, .ref k2, .ref k3, .int ln, .int at0, .int pt, .int mi, .int nu, .long ha]))], [(k1, .inl (E.2 0, 1160, .inl (upd sv 2 on)))]] : List va_W).flatten H := hP
    have hD : va_D A ([[(h0, .inr (9, [.int th, .ref k1, .int sd, .ref k2, .ref k3, .int ln, .int at0, .int pt, .int mi, .int nu, .long ha]))], [(k1, .inl (E.2 0, 1160, .inl (upd sv 2 on)))]] : List va_W).flatten := hD
    refine lv_aload_n hx hb dX10_switches_15 rfl (lv_at hl 0 rfl) ?_
    refine va_get (D := E.1) (ci := 9) (v := .ref k1) (C := RX10) (T := TX10) (N := 11) hx hb hts hi_X10 hown hK.1 hP 0 rfl rfl 1 (by decide) (hts (.fieldLink RX10 7 "AltimeterWatchModel" "s" "[I") (by decide +kernel)) (fun _ h9 => h9) rfl dX10_switches_16 ?_
    refine lv_bipush (v := 14) hx hb dX10_switches_19 (by decide) ?_
    refine lv_iconst (v := 0) hx hb dX10_switches_21 (by decide) ?_
    refine z_iast (k := 14) hx hb hK.1 hP hD hS 1 rfl rfl (by decide) (by decide) dX10_switches_22 (fun H locs hP hD hS => ?_)
    have hP : va_P E.1 vwCl ([[(h0, .inr (9, [.int th, .ref k1, .int sd, .ref k2, .ref k3, .int ln, .int at0, .int pt, .int mi, .int nu, .long ha]))], [(k1, .inl (E.2 0, 1160, .inl (upd (upd sv 2 on) 14 0)))]] : List va_W).flatten H := hP
    have hD : va_D A ([[(h0, .inr (9, [.int th, .ref k1, .int sd, .ref k2, .ref k3, .int ln, .int at0, .int pt, .int mi, .int nu, .long ha]))], [(k1, .inl (E.2 0, 1160, .inl (upd (upd sv 2 on) 14 0)))]] : List va_W).flatten := hD
    refine lv_aload_n hx hb dX10_switches_23 rfl (lv_at hl 0 rfl) ?_
    refine va_get (D := E.1) (ci := 9) (v := .ref k1) (C := RX10) (T := TX10) (N := 11) hx hb hts hi_X10 hown hK.1 hP 0 rfl rfl 1 (by decide) (hts (.fieldLink RX10 7 "AltimeterWatchModel" "s" "[I") (by decide +kernel)) (fun _ h9 => h9) rfl dX10_switches_24 ?_
    refine lv_bipush (v := 13) hx hb dX10_switches_27 (by decide) ?_
    refine lv_iconst (v := 0) hx hb dX10_switches_29 (by decide) ?_
    refine z_iast (k := 13) hx hb hK.1 hP hD hS 1 rfl rfl (by decide) (by decide) dX10_switches_30 (fun H locs hP hD hS => ?_)
    have hP : va_P E.1 vwCl ([[(h0, .inr (9, [.int th, .ref k1, .int sd, .ref k2, .ref k3, .int ln, .int at0, .int pt, .int mi, .int nu, .long ha]))], [(k1, .inl (E.2 0, 1160, .inl (upd (upd (upd sv 2 on) 14 0) 13 0)))]] : List va_W).flatten H := hP
    have hD : va_D A ([[(h0, .inr (9, [.int th, .ref k1, .int sd, .ref k2, .ref k3, .int ln, .int at0, .int pt, .int mi, .int nu, .long ha]))], [(k1, .inl (E.2 0, 1160, .inl (upd (upd (upd sv 2 on) 14 0) 13 0)))]] : List va_W).flatten := hD
    refine lv_iload_n hx hb dX10_switches_31 rfl (lv_at hl 1 rfl) ?_
    refine lv_if_eq (tgt := 49) hx hb dX10_switches_32 (by decide) (fun _ => ?_) (fun h9 => absurd (c_6) h9)
    refine lv_aload_n hx hb dX10_switches_49 rfl (lv_at hl 0 rfl) ?_
    refine va_get (D := E.1) (ci := 9) (v := .ref k1) (C := RX10) (T := TX10) (N := 11) hx hb hts hi_X10 hown hK.1 hP 0 rfl rfl 1 (by decide) (hts (.fieldLink RX10 7 "AltimeterWatchModel" "s" "[I") (by decide +kernel)) (fun _ h9 => h9) rfl dX10_switches_50 ?_
    refine lv_bipush (v := 9) hx hb dX10_switches_53 (by decide) ?_
    refine lv_aload_n hx hb dX10_switches_55 rfl (lv_at hl 0 rfl) ?_
    refine lv_iconst (v := 0) hx hb dX10_switches_56 (by decide) ?_
    have hPc : va_P E.1 vwCl ([[(h0, .inr (9, [.int th, .ref k1, .int sd, .ref k2, .ref k3, .int ln, .int at0, .int pt, .int mi, .int nu, .long ha]))], [(k1, .inl (E.2 0, 1160, .inl (upd (upd (upd sv 2 on) 14 0) 13 0)))]] : List va_W).flatten H := zf_sub hP [0, 1] rfl
    refine z_rdv (va_runV (As := [.int 0]) (rest := [.int 9, .ref k1]) ⟨hx, hb, hml, hown, hts⟩ (c_X10_altitudeAt l E h0 k1 k2 k3 th sd ln at0 pt mi nu ha 0 0 rfl (by omega) (upd (upd (upd sv 2 on) 14 0) 13 0)) (cwV 1 hts gX10_switches_X10_altitudeAt rfl rfl rfl (by decide +kernel) ⟨Nat.le_of_ble_eq_true rfl, Nat.le_of_ble_eq_true rfl⟩) ⟨zPr.blind, va_recv hK.1 hPc (ci := 9) (q0 := 0) rfl rfl, z_prer hK hPc⟩ rfl rfl hl.1 rfl (lv_room (Nat.le_of_ble_eq_true rfl)) dX10_switches_57 ⟨Nat.le_of_ble_eq_true rfl, Nat.le_of_ble_eq_true rfl⟩) ?_
    refine W.eq (g2 := F0 Mi 60 ls [.int (m_std ((upd (upd (upd sv 2 on) 14 0) 13 0) (0 + 0)) - m_std ((upd (upd (upd sv 2 on) 14 0) 13 0) (0 + 1))), .int 9, .ref k1]) rfl ?_
    refine z_topi (y := (m_std (sv 0) - m_std (sv 1))) (by simp [upd]) ?_
    refine z_iast (k := 9) hx hb hK.1 hP hD hS 1 rfl rfl (by decide) (by decide) dX10_switches_60 (fun H locs hP hD hS => ?_)
    have hP : va_P E.1 vwCl ([[(h0, .inr (9, [.int th, .ref k1, .int sd, .ref k2, .ref k3, .int ln, .int at0, .int pt, .int mi, .int nu, .long ha]))], [(k1, .inl (E.2 0, 1160, .inl (upd (upd (upd (upd sv 2 on) 14 0) 13 0) 9 (m_std (sv 0) - m_std (sv 1)))))]] : List va_W).flatten H := hP
    have hD : va_D A ([[(h0, .inr (9, [.int th, .ref k1, .int sd, .ref k2, .ref k3, .int ln, .int at0, .int pt, .int mi, .int nu, .long ha]))], [(k1, .inl (E.2 0, 1160, .inl (upd (upd (upd (upd sv 2 on) 14 0) 13 0) 9 (m_std (sv 0) - m_std (sv 1)))))]] : List va_W).flatten := hD
    have hP : va_P E.1 vwCl ([[(h0, .inr (9, [.int th, .ref k1, .int sd, .ref k2, .ref k3, .int ln, .int at0, .int pt, .int mi, .int nu, .long ha]))], [(k1, .inl (E.2 0, 1160, .inl (upd (upd (upd (upd sv 2 on) 14 0) 13 0) 9 (m_std (sv 0) - m_std (sv 1)))))]] : List va_W).flatten H := zf_sub hP [0, 1] rfl
    have hD : va_D A ([[(h0, .inr (9, [.int th, .ref k1, .int sd, .ref k2, .ref k3, .int ln, .int at0, .int pt, .int mi, .int nu, .long ha]))], [(k1, .inl (E.2 0, 1160, .inl (upd (upd (upd (upd sv 2 on) 14 0) 13 0) 9 (m_std (sv 0) - m_std (sv 1)))))]] : List va_W).flatten := zf_subD hD [0, 1] (by decide) rfl
    exact W.vret hx hb hr (z_end hP hD hS (by rw [m_swA, if_pos c_6])) hS.2.2 dX10_switches_61 hlocks
  · refine lv_iconst (v := 1) hx hb dX10_switches_9 (by decide) ?_
    refine lv_goto (tgt := 14) hx hb dX10_switches_10 (by decide) ?_
    refine z_topi (y := on) (hon.resolve_left c_6).symm ?_
    refine z_iast (k := 2) hx hb hK.1 hP hD hS 1 rfl rfl (by decide) (by decide) dX10_switches_14 (fun H locs hP hD hS => ?_)
    have hP : va_P E.1 vwCl ([[(h0, .inr (9, [.int th, .ref k1, .int sd, .ref k2, .ref k3, .int ln, .int at0, .int pt, .int mi, .int nu, .long ha]))], [(k1, .inl (E.2 0, 1160, .inl (upd sv 2 on)))]] : List va_W).flatten H := hP
    have hD : va_D A ([[(h0, .inr (9, [.int th, .ref k1, .int sd, .ref k2, .ref k3, .int ln, .int at0, .int pt, .int mi, .int nu, .long ha]))], [(k1, .inl (E.2 0, 1160, .inl (upd sv 2 on)))]] : List va_W).flatten := hD
    refine lv_aload_n hx hb dX10_switches_15 rfl (lv_at hl 0 rfl) ?_
    refine va_get (D := E.1) (ci := 9) (v := .ref k1) (C := RX10) (T := TX10) (N := 11) hx hb hts hi_X10 hown hK.1 hP 0 rfl rfl 1 (by decide) (hts (.fieldLink RX10 7 "AltimeterWatchModel" "s" "[I") (by decide +kernel)) (fun _ h9 => h9) rfl dX10_switches_16 ?_
    refine lv_bipush (v := 14) hx hb dX10_switches_19 (by decide) ?_
    refine lv_iconst (v := 0) hx hb dX10_switches_21 (by decide) ?_
    refine z_iast (k := 14) hx hb hK.1 hP hD hS 1 rfl rfl (by decide) (by decide) dX10_switches_22 (fun H locs hP hD hS => ?_)
    have hP : va_P E.1 vwCl ([[(h0, .inr (9, [.int th, .ref k1, .int sd, .ref k2, .ref k3, .int ln, .int at0, .int pt, .int mi, .int nu, .long ha]))], [(k1, .inl (E.2 0, 1160, .inl (upd (upd sv 2 on) 14 0)))]] : List va_W).flatten H := hP
    have hD : va_D A ([[(h0, .inr (9, [.int th, .ref k1, .int sd, .ref k2, .ref k3, .int ln, .int at0, .int pt, .int mi, .int nu, .long ha]))], [(k1, .inl (E.2 0, 1160, .inl (upd (upd sv 2 on) 14 0)))]] : List va_W).flatten := hD
    refine lv_aload_n hx hb dX10_switches_23 rfl (lv_at hl 0 rfl) ?_
    refine va_get (D := E.1) (ci := 9) (v := .ref k1) (C := RX10) (T := TX10) (N := 11) hx hb hts hi_X10 hown hK.1 hP 0 rfl rfl 1 (by decide) (hts (.fieldLink RX10 7 "AltimeterWatchModel" "s" "[I") (by decide +kernel)) (fun _ h9 => h9) rfl dX10_switches_24 ?_
    refine lv_bipush (v := 13) hx hb dX10_switches_27 (by decide) ?_
    refine lv_iconst (v := 0) hx hb dX10_switches_29 (by decide) ?_
    refine z_iast (k := 13) hx hb hK.1 hP hD hS 1 rfl rfl (by decide) (by decide) dX10_switches_30 (fun H locs hP hD hS => ?_)
    have hP : va_P E.1 vwCl ([[(h0, .inr (9, [.int th, .ref k1, .int sd, .ref k2, .ref k3, .int ln, .int at0, .int pt, .int mi, .int nu, .long ha]))], [(k1, .inl (E.2 0, 1160, .inl (upd (upd (upd sv 2 on) 14 0) 13 0)))]] : List va_W).flatten H := hP
    have hD : va_D A ([[(h0, .inr (9, [.int th, .ref k1, .int sd, .ref k2, .ref k3, .int ln, .int at0, .int pt, .int mi, .int nu, .long ha]))], [(k1, .inl (E.2 0, 1160, .inl (upd (upd (upd sv 2 on) 14 0) 13 0)))]] : List va_W).flatten := hD
    refine lv_iload_n hx hb dX10_switches_31 rfl (lv_at hl 1 rfl) ?_
    refine lv_if_eq (tgt := 49) hx hb dX10_switches_32 (by decide) (fun h9 => absurd h9 (c_6)) (fun _ => ?_)
    refine lv_aload_n hx hb dX10_switches_35 rfl (lv_at hl 0 rfl) ?_
    refine va_get (D := E.1) (ci := 9) (v := .ref k1) (C := RX10) (T := TX10) (N := 11) hx hb hts hi_X10 hown hK.1 hP 0 rfl rfl 1 (by decide) (hts (.fieldLink RX10 7 "AltimeterWatchModel" "s" "[I") (by decide +kernel)) (fun _ h9 => h9) rfl dX10_switches_36 ?_
    refine lv_iconst (v := 3) hx hb dX10_switches_39 (by decide) ?_
    refine lv_aload_n hx hb dX10_switches_40 rfl (lv_at hl 0 rfl) ?_
    refine lv_iconst (v := 0) hx hb dX10_switches_41 (by decide) ?_
    have hPc : va_P E.1 vwCl ([[(h0, .inr (9, [.int th, .ref k1, .int sd, .ref k2, .ref k3, .int ln, .int at0, .int pt, .int mi, .int nu, .long ha]))], [(k1, .inl (E.2 0, 1160, .inl (upd (upd (upd sv 2 on) 14 0) 13 0)))]] : List va_W).flatten H := zf_sub hP [0, 1] rfl
    refine z_rdv (va_runV (As := [.int 0]) (rest := [.int 3, .ref k1]) ⟨hx, hb, hml, hown, hts⟩ (c_X10_altitudeAt l E h0 k1 k2 k3 th sd ln at0 pt mi nu ha 0 0 rfl (by omega) (upd (upd (upd sv 2 on) 14 0) 13 0)) (cwV 1 hts gX10_switches_X10_altitudeAt rfl rfl rfl (by decide +kernel) ⟨Nat.le_of_ble_eq_true rfl, Nat.le_of_ble_eq_true rfl⟩) ⟨zPr.blind, va_recv hK.1 hPc (ci := 9) (q0 := 0) rfl rfl, z_prer hK hPc⟩ rfl rfl hl.1 rfl (lv_room (Nat.le_of_ble_eq_true rfl)) dX10_switches_42 ⟨Nat.le_of_ble_eq_true rfl, Nat.le_of_ble_eq_true rfl⟩) ?_
    refine W.eq (g2 := F0 Mi 45 ls [.int (m_std ((upd (upd (upd sv 2 on) 14 0) 13 0) (0 + 0)) - m_std ((upd (upd (upd sv 2 on) 14 0) 13 0) (0 + 1))), .int 3, .ref k1]) rfl ?_
    refine z_topi (y := (m_std (sv 0) - m_std (sv 1))) (by simp [upd]) ?_
    refine z_iast (k := 3) hx hb hK.1 hP hD hS 1 rfl rfl (by decide) (by decide) dX10_switches_45 (fun H locs hP hD hS => ?_)
    have hP : va_P E.1 vwCl ([[(h0, .inr (9, [.int th, .ref k1, .int sd, .ref k2, .ref k3, .int ln, .int at0, .int pt, .int mi, .int nu, .long ha]))], [(k1, .inl (E.2 0, 1160, .inl (upd (upd (upd (upd sv 2 on) 14 0) 13 0) 3 (m_std (sv 0) - m_std (sv 1)))))]] : List va_W).flatten H := hP
    have hD : va_D A ([[(h0, .inr (9, [.int th, .ref k1, .int sd, .ref k2, .ref k3, .int ln, .int at0, .int pt, .int mi, .int nu, .long ha]))], [(k1, .inl (E.2 0, 1160, .inl (upd (upd (upd (upd sv 2 on) 14 0) 13 0) 3 (m_std (sv 0) - m_std (sv 1)))))]] : List va_W).flatten := hD
    refine lv_goto (tgt := 61) hx hb dX10_switches_46 (by decide) ?_
    have hP : va_P E.1 vwCl ([[(h0, .inr (9, [.int th, .ref k1, .int sd, .ref k2, .ref k3, .int ln, .int at0, .int pt, .int mi, .int nu, .long ha]))], [(k1, .inl (E.2 0, 1160, .inl (upd (upd (upd (upd sv 2 on) 14 0) 13 0) 3 (m_std (sv 0) - m_std (sv 1)))))]] : List va_W).flatten H := zf_sub hP [0, 1] rfl
    have hD : va_D A ([[(h0, .inr (9, [.int th, .ref k1, .int sd, .ref k2, .ref k3, .int ln, .int at0, .int pt, .int mi, .int nu, .long ha]))], [(k1, .inl (E.2 0, 1160, .inl (upd (upd (upd (upd sv 2 on) 14 0) 13 0) 3 (m_std (sv 0) - m_std (sv 1)))))]] : List va_W).flatten := zf_subD hD [0, 1] (by decide) rfl
    exact W.vret hx hb hr (z_end hP hD hS (by rw [m_swA, if_neg c_6])) hS.2.2 dX10_switches_61 hlocks

set_option maxHeartbeats 4000000 in
set_option maxRecDepth 100000 in
theorem c_X10_settles (l : Launch) (E : zE) (h0 k1 k2 k3 : Nat) (th sd ln at0 pt mi nu : Int32) (ha : Int64) (sv : Nat → Int32) : zM l yX10_settles wsX10_settles ({ frames := 2, cells := 0, slots := 0, locals := 42 }) E [.ref h0] ([[(h0, .inr (9, [.int th, .ref k1, .int sd, .ref k2, .ref k3, .int ln, .int at0, .int pt, .int mi, .int nu, .long ha]))], [(k1, .inl (E.2 0, 1160, .inl sv))]] : List va_W).flatten none ([[(h0, .inr (9, [.int th, .ref k1, .int sd, .ref k2, .ref k3, .int ln, .int at0, .int pt, .int mi, .int nu, .long ha]))], [(k1, .inl (E.2 0, 1160, .inl (m_stA sv)))]] : List va_W).flatten 0 0 := by
  refine z_start (cc := cX10_settles) (maxL := 1) (ret := none) (by decide) rfl (Nat.le_of_ble_eq_true rfl) ?_
  intro Pg En s Mi below meth Cd A hx hb hr hts hown hlocks hin hml hA H hH hP hK hD hS ls hl
  have hl : lv_has ls 1 [(0, .ref h0)] := hl
  have hi_X10 : ∀ w ∈ wsX100, w ∈ wsX10_settles := by decide +kernel
  refine lv_aload_n hx hb dX10_settles_0 rfl (lv_at hl 0 rfl) ?_
  refine va_get (D := E.1) (ci := 9) (v := .ref k1) (C := RX10) (T := TX10) (N := 11) hx hb hts hi_X10 hown hK.1 hP 0 rfl rfl 1 (by decide) (hts (.fieldLink RX10 7 "AltimeterWatchModel" "s" "[I") (by decide +kernel)) (fun _ h9 => h9) rfl dX10_settles_1 ?_
  refine lv_iconst (v := 3) hx hb dX10_settles_4 (by decide) ?_
  refine lv_aload_n hx hb dX10_settles_5 rfl (lv_at hl 0 rfl) ?_
  refine va_get (D := E.1) (ci := 9) (v := .ref k1) (C := RX10) (T := TX10) (N := 11) hx hb hts hi_X10 hown hK.1 hP 0 rfl rfl 1 (by decide) (hts (.fieldLink RX10 7 "AltimeterWatchModel" "s" "[I") (by decide +kernel)) (fun _ h9 => h9) rfl dX10_settles_6 ?_
  refine lv_iconst (v := 2) hx hb dX10_settles_9 (by decide) ?_
  refine z_iald (k := 2) hx hb hK.1 hP 1 rfl rfl (by decide) (by decide) dX10_settles_10 ?_
  refine lv_iconst (v := 1) hx hb dX10_settles_11 (by decide) ?_
  refine lv_icmp_ne (tgt := 23) hx hb dX10_settles_12 (by decide) (fun c_12 => ?_) (fun c_12 => ?_)
  · refine lv_aload_n hx hb dX10_settles_23 rfl (lv_at hl 0 rfl) ?_
    refine va_get (D := E.1) (ci := 9) (v := .ref k1) (C := RX10) (T := TX10) (N := 11) hx hb hts hi_X10 hown hK.1 hP 0 rfl rfl 1 (by decide) (hts (.fieldLink RX10 7 "AltimeterWatchModel" "s" "[I") (by decide +kernel)) (fun _ h9 => h9) rfl dX10_settles_24 ?_
    refine lv_iconst (v := 3) hx hb dX10_settles_27 (by decide) ?_
    refine z_iald (k := 3) hx hb hK.1 hP 1 rfl rfl (by decide) (by decide) dX10_settles_28 ?_
    refine z_topi (y := (if sv 2 = 1 then m_std (sv 0) - m_std (sv 1) else sv 3)) (if_neg c_12).symm ?_
    refine z_iast (k := 3) hx hb hK.1 hP hD hS 1 rfl rfl (by decide) (by decide) dX10_settles_29 (fun H locs hP hD hS => ?_)
    have hP : va_P E.1 vwCl ([[(h0, .inr (9, [.int th, .ref k1, .int sd, .ref k2, .ref k3, .int ln, .int at0, .int pt, .int mi, .int nu, .long ha]))], [(k1, .inl (E.2 0, 1160, .inl (upd sv 3 (if sv 2 = 1 then m_std (sv 0) - m_std (sv 1) else sv 3))))]] : List va_W).flatten H := hP
    have hD : va_D A ([[(h0, .inr (9, [.int th, .ref k1, .int sd, .ref k2, .ref k3, .int ln, .int at0, .int pt, .int mi, .int nu, .long ha]))], [(k1, .inl (E.2 0, 1160, .inl (upd sv 3 (if sv 2 = 1 then m_std (sv 0) - m_std (sv 1) else sv 3))))]] : List va_W).flatten := hD
    refine lv_aload_n hx hb dX10_settles_30 rfl (lv_at hl 0 rfl) ?_
    refine va_get (D := E.1) (ci := 9) (v := .ref k1) (C := RX10) (T := TX10) (N := 11) hx hb hts hi_X10 hown hK.1 hP 0 rfl rfl 1 (by decide) (hts (.fieldLink RX10 7 "AltimeterWatchModel" "s" "[I") (by decide +kernel)) (fun _ h9 => h9) rfl dX10_settles_31 ?_
    refine lv_bipush (v := 9) hx hb dX10_settles_34 (by decide) ?_
    refine lv_aload_n hx hb dX10_settles_36 rfl (lv_at hl 0 rfl) ?_
    refine lv_iconst (v := 0) hx hb dX10_settles_37 (by decide) ?_
    have hPc : va_P E.1 vwCl ([[(h0, .inr (9, [.int th, .ref k1, .int sd, .ref k2, .ref k3, .int ln, .int at0, .int pt, .int mi, .int nu, .long ha]))], [(k1, .inl (E.2 0, 1160, .inl (upd sv 3 (if sv 2 = 1 then m_std (sv 0) - m_std (sv 1) else sv 3))))]] : List va_W).flatten H := zf_sub hP [0, 1] rfl
    refine z_rdv (va_runV (As := [.int 0]) (rest := [.int 9, .ref k1]) ⟨hx, hb, hml, hown, hts⟩ (c_X10_altitudeAt l E h0 k1 k2 k3 th sd ln at0 pt mi nu ha 0 0 rfl (by omega) (upd sv 3 (if sv 2 = 1 then m_std (sv 0) - m_std (sv 1) else sv 3))) (cwV 1 hts gX10_settles_X10_altitudeAt rfl rfl rfl (by decide +kernel) ⟨Nat.le_of_ble_eq_true rfl, Nat.le_of_ble_eq_true rfl⟩) ⟨zPr.blind, va_recv hK.1 hPc (ci := 9) (q0 := 0) rfl rfl, z_prer hK hPc⟩ rfl rfl hl.1 rfl (lv_room (Nat.le_of_ble_eq_true rfl)) dX10_settles_38 ⟨Nat.le_of_ble_eq_true rfl, Nat.le_of_ble_eq_true rfl⟩) ?_
    refine W.eq (g2 := F0 Mi 41 ls [.int (m_std ((upd sv 3 (if sv 2 = 1 then m_std (sv 0) - m_std (sv 1) else sv 3)) (0 + 0)) - m_std ((upd sv 3 (if sv 2 = 1 then m_std (sv 0) - m_std (sv 1) else sv 3)) (0 + 1))), .int 9, .ref k1]) rfl ?_
    refine z_topi (y := (m_std (sv 0) - m_std (sv 1))) (by simp [upd]) ?_
    refine z_iast (k := 9) hx hb hK.1 hP hD hS 1 rfl rfl (by decide) (by decide) dX10_settles_41 (fun H locs hP hD hS => ?_)
    have hP : va_P E.1 vwCl ([[(h0, .inr (9, [.int th, .ref k1, .int sd, .ref k2, .ref k3, .int ln, .int at0, .int pt, .int mi, .int nu, .long ha]))], [(k1, .inl (E.2 0, 1160, .inl (upd (upd sv 3 (if sv 2 = 1 then m_std (sv 0) - m_std (sv 1) else sv 3)) 9 (m_std (sv 0) - m_std (sv 1)))))]] : List va_W).flatten H := hP
    have hD : va_D A ([[(h0, .inr (9, [.int th, .ref k1, .int sd, .ref k2, .ref k3, .int ln, .int at0, .int pt, .int mi, .int nu, .long ha]))], [(k1, .inl (E.2 0, 1160, .inl (upd (upd sv 3 (if sv 2 = 1 then m_std (sv 0) - m_std (sv 1) else sv 3)) 9 (m_std (sv 0) - m_std (sv 1)))))]] : List va_W).flatten := hD
    have hP : va_P E.1 vwCl ([[(h0, .inr (9, [.int th, .ref k1, .int sd, .ref k2, .ref k3, .int ln, .int at0, .int pt, .int mi, .int nu, .long ha]))], [(k1, .inl (E.2 0, 1160, .inl (upd (upd sv 3 (if sv 2 = 1 then m_std (sv 0) - m_std (sv 1) else sv 3)) 9 (m_std (sv 0) - m_std (sv 1)))))]] : List va_W).flatten H := zf_sub hP [0, 1] rfl
    have hD : va_D A ([[(h0, .inr (9, [.int th, .ref k1, .int sd, .ref k2, .ref k3, .int ln, .int at0, .int pt, .int mi, .int nu, .long ha]))], [(k1, .inl (E.2 0, 1160, .inl (upd (upd sv 3 (if sv 2 = 1 then m_std (sv 0) - m_std (sv 1) else sv 3)) 9 (m_std (sv 0) - m_std (sv 1)))))]] : List va_W).flatten := zf_subD hD [0, 1] (by decide) rfl
    exact W.vret hx hb hr (z_end hP hD hS rfl) hS.2.2 dX10_settles_42 hlocks
  · refine lv_aload_n hx hb dX10_settles_15 rfl (lv_at hl 0 rfl) ?_
    refine lv_iconst (v := 0) hx hb dX10_settles_16 (by decide) ?_
    have hPc : va_P E.1 vwCl ([[(h0, .inr (9, [.int th, .ref k1, .int sd, .ref k2, .ref k3, .int ln, .int at0, .int pt, .int mi, .int nu, .long ha]))], [(k1, .inl (E.2 0, 1160, .inl sv))]] : List va_W).flatten H := zf_sub hP [0, 1] rfl
    refine z_rdv (va_runV (As := [.int 0]) (rest := [.int 3, .ref k1]) ⟨hx, hb, hml, hown, hts⟩ (c_X10_altitudeAt l E h0 k1 k2 k3 th sd ln at0 pt mi nu ha 0 0 rfl (by omega) sv) (cwV 1 hts gX10_settles_X10_altitudeAt rfl rfl rfl (by decide +kernel) ⟨Nat.le_of_ble_eq_true rfl, Nat.le_of_ble_eq_true rfl⟩) ⟨zPr.blind, va_recv hK.1 hPc (ci := 9) (q0 := 0) rfl rfl, z_prer hK hPc⟩ rfl rfl hl.1 rfl (lv_room (Nat.le_of_ble_eq_true rfl)) dX10_settles_17 ⟨Nat.le_of_ble_eq_true rfl, Nat.le_of_ble_eq_true rfl⟩) ?_
    refine W.eq (g2 := F0 Mi 20 ls [.int (m_std (sv (0 + 0)) - m_std (sv (0 + 1))), .int 3, .ref k1]) rfl ?_
    refine lv_goto (tgt := 29) hx hb dX10_settles_20 (by decide) ?_
    refine z_topi (y := (if sv 2 = 1 then m_std (sv 0) - m_std (sv 1) else sv 3)) (if_pos c_12).symm ?_
    refine z_iast (k := 3) hx hb hK.1 hP hD hS 1 rfl rfl (by decide) (by decide) dX10_settles_29 (fun H locs hP hD hS => ?_)
    have hP : va_P E.1 vwCl ([[(h0, .inr (9, [.int th, .ref k1, .int sd, .ref k2, .ref k3, .int ln, .int at0, .int pt, .int mi, .int nu, .long ha]))], [(k1, .inl (E.2 0, 1160, .inl (upd sv 3 (if sv 2 = 1 then m_std (sv 0) - m_std (sv 1) else sv 3))))]] : List va_W).flatten H := hP
    have hD : va_D A ([[(h0, .inr (9, [.int th, .ref k1, .int sd, .ref k2, .ref k3, .int ln, .int at0, .int pt, .int mi, .int nu, .long ha]))], [(k1, .inl (E.2 0, 1160, .inl (upd sv 3 (if sv 2 = 1 then m_std (sv 0) - m_std (sv 1) else sv 3))))]] : List va_W).flatten := hD
    refine lv_aload_n hx hb dX10_settles_30 rfl (lv_at hl 0 rfl) ?_
    refine va_get (D := E.1) (ci := 9) (v := .ref k1) (C := RX10) (T := TX10) (N := 11) hx hb hts hi_X10 hown hK.1 hP 0 rfl rfl 1 (by decide) (hts (.fieldLink RX10 7 "AltimeterWatchModel" "s" "[I") (by decide +kernel)) (fun _ h9 => h9) rfl dX10_settles_31 ?_
    refine lv_bipush (v := 9) hx hb dX10_settles_34 (by decide) ?_
    refine lv_aload_n hx hb dX10_settles_36 rfl (lv_at hl 0 rfl) ?_
    refine lv_iconst (v := 0) hx hb dX10_settles_37 (by decide) ?_
    have hPc : va_P E.1 vwCl ([[(h0, .inr (9, [.int th, .ref k1, .int sd, .ref k2, .ref k3, .int ln, .int at0, .int pt, .int mi, .int nu, .long ha]))], [(k1, .inl (E.2 0, 1160, .inl (upd sv 3 (if sv 2 = 1 then m_std (sv 0) - m_std (sv 1) else sv 3))))]] : List va_W).flatten H := zf_sub hP [0, 1] rfl
    refine z_rdv (va_runV (As := [.int 0]) (rest := [.int 9, .ref k1]) ⟨hx, hb, hml, hown, hts⟩ (c_X10_altitudeAt l E h0 k1 k2 k3 th sd ln at0 pt mi nu ha 0 0 rfl (by omega) (upd sv 3 (if sv 2 = 1 then m_std (sv 0) - m_std (sv 1) else sv 3))) (cwV 1 hts gX10_settles_X10_altitudeAt rfl rfl rfl (by decide +kernel) ⟨Nat.le_of_ble_eq_true rfl, Nat.le_of_ble_eq_true rfl⟩) ⟨zPr.blind, va_recv hK.1 hPc (ci := 9) (q0 := 0) rfl rfl, z_prer hK hPc⟩ rfl rfl hl.1 rfl (lv_room (Nat.le_of_ble_eq_true rfl)) dX10_settles_38 ⟨Nat.le_of_ble_eq_true rfl, Nat.le_of_ble_eq_true rfl⟩) ?_
    refine W.eq (g2 := F0 Mi 41 ls [.int (m_std ((upd sv 3 (if sv 2 = 1 then m_std (sv 0) - m_std (sv 1) else sv 3)) (0 + 0)) - m_std ((upd sv 3 (if sv 2 = 1 then m_std (sv 0) - m_std (sv 1) else sv 3)) (0 + 1))), .int 9, .ref k1]) rfl ?_
    refine z_topi (y := (m_std (sv 0) - m_std (sv 1))) (by simp [upd]) ?_
    refine z_iast (k := 9) hx hb hK.1 hP hD hS 1 rfl rfl (by decide) (by decide) dX10_settles_41 (fun H locs hP hD hS => ?_)
    have hP : va_P E.1 vwCl ([[(h0, .inr (9, [.int th, .ref k1, .int sd, .ref k2, .ref k3, .int ln, .int at0, .int pt, .int mi, .int nu, .long ha]))], [(k1, .inl (E.2 0, 1160, .inl (upd (upd sv 3 (if sv 2 = 1 then m_std (sv 0) - m_std (sv 1) else sv 3)) 9 (m_std (sv 0) - m_std (sv 1)))))]] : List va_W).flatten H := hP
    have hD : va_D A ([[(h0, .inr (9, [.int th, .ref k1, .int sd, .ref k2, .ref k3, .int ln, .int at0, .int pt, .int mi, .int nu, .long ha]))], [(k1, .inl (E.2 0, 1160, .inl (upd (upd sv 3 (if sv 2 = 1 then m_std (sv 0) - m_std (sv 1) else sv 3)) 9 (m_std (sv 0) - m_std (sv 1)))))]] : List va_W).flatten := hD
    have hP : va_P E.1 vwCl ([[(h0, .inr (9, [.int th, .ref k1, .int sd, .ref k2, .ref k3, .int ln, .int at0, .int pt, .int mi, .int nu, .long ha]))], [(k1, .inl (E.2 0, 1160, .inl (upd (upd sv 3 (if sv 2 = 1 then m_std (sv 0) - m_std (sv 1) else sv 3)) 9 (m_std (sv 0) - m_std (sv 1)))))]] : List va_W).flatten H := zf_sub hP [0, 1] rfl
    have hD : va_D A ([[(h0, .inr (9, [.int th, .ref k1, .int sd, .ref k2, .ref k3, .int ln, .int at0, .int pt, .int mi, .int nu, .long ha]))], [(k1, .inl (E.2 0, 1160, .inl (upd (upd sv 3 (if sv 2 = 1 then m_std (sv 0) - m_std (sv 1) else sv 3)) 9 (m_std (sv 0) - m_std (sv 1)))))]] : List va_W).flatten := zf_subD hD [0, 1] (by decide) rfl
    exact W.vret hx hb hr (z_end hP hD hS rfl) hS.2.2 dX10_settles_42 hlocks

set_option maxHeartbeats 4000000 in
set_option maxRecDepth 100000 in
theorem c_X10_calibrates (l : Launch) (E : zE) (h0 k1 k2 k3 : Nat) (th sd ln at0 pt mi nu : Int32) (ha : Int64) (sv : Nat → Int32) (a : Int32) : zM l yX10_calibrates wsX10_calibrates ({ frames := 3, cells := 0, slots := 0, locals := 62 }) E [.ref h0, .int a] ([[(h0, .inr (9, [.int th, .ref k1, .int sd, .ref k2, .ref k3, .int ln, .int at0, .int pt, .int mi, .int nu, .long ha]))], [(k1, .inl (E.2 0, 1160, .inl sv))]] : List va_W).flatten (some (.int (m_std (sv (0 + 0)) - m_std (sv (0 + 1)) - a))) ([[(h0, .inr (9, [.int th, .ref k1, .int sd, .ref k2, .ref k3, .int ln, .int at0, .int pt, .int mi, .int nu, .long ha]))], [(k1, .inl (E.2 0, 1160, .inl (m_caA sv a)))]] : List va_W).flatten 0 0 := by
  refine z_start (cc := cX10_calibrates) (maxL := 3) (ret := (some .int)) (by decide) rfl (Nat.le_of_ble_eq_true rfl) ?_
  intro Pg En s Mi below meth Cd A hx hb hr hts hown hlocks hin hml hA H hH hP hK hD hS ls hl
  have hl : lv_has ls 3 [(0, .ref h0), (1, .int a)] := hl
  have hi_X10 : ∀ w ∈ wsX100, w ∈ wsX10_calibrates := by decide +kernel
  refine lv_aload_n hx hb dX10_calibrates_0 rfl (lv_at hl 0 rfl) ?_
  refine lv_iconst (v := 0) hx hb dX10_calibrates_1 (by decide) ?_
  have hPc : va_P E.1 vwCl ([[(h0, .inr (9, [.int th, .ref k1, .int sd, .ref k2, .ref k3, .int ln, .int at0, .int pt, .int mi, .int nu, .long ha]))], [(k1, .inl (E.2 0, 1160, .inl sv))]] : List va_W).flatten H := zf_sub hP [0, 1] rfl
  refine z_rdv (va_runV (As := [.int 0]) (rest := []) ⟨hx, hb, hml, hown, hts⟩ (c_X10_altitudeAt l E h0 k1 k2 k3 th sd ln at0 pt mi nu ha 0 0 rfl (by omega) sv) (cwV 1 hts gX10_calibrates_X10_altitudeAt rfl rfl rfl (by decide +kernel) ⟨Nat.le_of_ble_eq_true rfl, Nat.le_of_ble_eq_true rfl⟩) ⟨zPr.blind, va_recv hK.1 hPc (ci := 9) (q0 := 0) rfl rfl, z_prer hK hPc⟩ rfl rfl hl.1 rfl (lv_room (Nat.le_of_ble_eq_true rfl)) dX10_calibrates_2 ⟨Nat.le_of_ble_eq_true rfl, Nat.le_of_ble_eq_true rfl⟩) ?_
  refine W.eq (g2 := F0 Mi 5 ls [.int (m_std (sv (0 + 0)) - m_std (sv (0 + 1)))]) rfl ?_
  refine lv_iload_n hx hb dX10_calibrates_5 rfl (lv_at hl 1 rfl) ?_
  refine lv_isub hx hb dX10_calibrates_6 ?_
  refine lv_topi (fun f_1 ef_1 => ?_)
  refine lv_istore_n (lv' := [(2, .int f_1), (0, .ref h0), (1, .int a)]) hx hb dX10_calibrates_7 rfl hl (by decide) rfl (fun ls hl => ?_)
  refine lv_aload_n hx hb dX10_calibrates_8 rfl (lv_at hl 1 rfl) ?_
  refine lv_iconst (v := 0) hx hb dX10_calibrates_9 (by decide) ?_
  refine lv_iload_n hx hb dX10_calibrates_10 rfl (lv_at hl 2 rfl) ?_
  have hPc : va_P E.1 vwCl ([[(h0, .inr (9, [.int th, .ref k1, .int sd, .ref k2, .ref k3, .int ln, .int at0, .int pt, .int mi, .int nu, .long ha]))], [(k1, .inl (E.2 0, 1160, .inl sv))]] : List va_W).flatten H := zf_sub hP [0, 1] rfl
  have hDc : va_D A ([[(h0, .inr (9, [.int th, .ref k1, .int sd, .ref k2, .ref k3, .int ln, .int at0, .int pt, .int mi, .int nu, .long ha]))], [(k1, .inl (E.2 0, 1160, .inl sv))]] : List va_W).flatten := zf_subD hD [0, 1] (by decide) rfl
  refine z_mut (Sc := [[(h0, .inr (9, [.int th, .ref k1, .int sd, .ref k2, .ref k3, .int ln, .int at0, .int pt, .int mi, .int nu, .long ha]))], [(k1, .inl (E.2 0, 1160, .inl sv))]]) (Sr := []) (W1 := [[(h0, .inr (9, [.int th, .ref k1, .int sd, .ref k2, .ref k3, .int ln, .int at0, .int pt, .int mi, .int nu, .long ha]))], [(k1, .inl (E.2 0, 1160, .inl (upd sv (0 + 1) (m_bst (sv (0 + 0)) a))))]]) (va_runV (As := [.int 0, .int a]) (rest := []) ⟨hx, hb, hml, hown, hts⟩ (c_X10_adjusts l E h0 k1 k2 k3 th sd ln at0 pt mi nu ha 0 0 rfl (by omega) sv a H.size) (cwV 2 hts gX10_calibrates_X10_adjusts rfl rfl rfl (by decide +kernel) ⟨Nat.le_of_ble_eq_true rfl, Nat.le_of_ble_eq_true rfl⟩) ⟨zP.blind, va_recv hK.1 hPc (ci := 9) (q0 := 0) rfl rfl, z_pre hK hPc hDc⟩ rfl rfl hl.1 rfl (lv_room (Nat.le_of_ble_eq_true rfl)) dX10_calibrates_11 ⟨Nat.le_of_ble_eq_true rfl, Nat.le_of_ble_eq_true rfl⟩) hP hD hS hA [0, 1] [] rfl rfl (by decide) (by decide) (fun H locs hP hD hS => ?_)
  have hP : va_P E.1 vwCl ([[(h0, .inr (9, [.int th, .ref k1, .int sd, .ref k2, .ref k3, .int ln, .int at0, .int pt, .int mi, .int nu, .long ha]))], [(k1, .inl (E.2 0, 1160, .inl (upd sv (0 + 1) (m_bst (sv (0 + 0)) a))))]] : List va_W).flatten H := hP
  have hD : va_D A ([[(h0, .inr (9, [.int th, .ref k1, .int sd, .ref k2, .ref k3, .int ln, .int at0, .int pt, .int mi, .int nu, .long ha]))], [(k1, .inl (E.2 0, 1160, .inl (upd sv (0 + 1) (m_bst (sv (0 + 0)) a))))]] : List va_W).flatten := hD
  refine W.eq (g2 := F0 Mi 14 ls []) rfl ?_
  refine lv_aload_n hx hb dX10_calibrates_14 rfl (lv_at hl 1 rfl) ?_
  have hPc : va_P E.1 vwCl ([[(h0, .inr (9, [.int th, .ref k1, .int sd, .ref k2, .ref k3, .int ln, .int at0, .int pt, .int mi, .int nu, .long ha]))], [(k1, .inl (E.2 0, 1160, .inl (upd sv (0 + 1) (m_bst (sv (0 + 0)) a))))]] : List va_W).flatten H := zf_sub hP [0, 1] rfl
  have hDc : va_D A ([[(h0, .inr (9, [.int th, .ref k1, .int sd, .ref k2, .ref k3, .int ln, .int at0, .int pt, .int mi, .int nu, .long ha]))], [(k1, .inl (E.2 0, 1160, .inl (upd sv (0 + 1) (m_bst (sv (0 + 0)) a))))]] : List va_W).flatten := zf_subD hD [0, 1] (by decide) rfl
  refine z_mut (Sc := [[(h0, .inr (9, [.int th, .ref k1, .int sd, .ref k2, .ref k3, .int ln, .int at0, .int pt, .int mi, .int nu, .long ha]))], [(k1, .inl (E.2 0, 1160, .inl (upd sv (0 + 1) (m_bst (sv (0 + 0)) a))))]]) (Sr := []) (W1 := [[(h0, .inr (9, [.int th, .ref k1, .int sd, .ref k2, .ref k3, .int ln, .int at0, .int pt, .int mi, .int nu, .long ha]))], [(k1, .inl (E.2 0, 1160, .inl (m_stA (upd sv (0 + 1) (m_bst (sv (0 + 0)) a)))))]]) (va_runV (As := []) (rest := []) ⟨hx, hb, hml, hown, hts⟩ (c_X10_settles l E h0 k1 k2 k3 th sd ln at0 pt mi nu ha (upd sv (0 + 1) (m_bst (sv (0 + 0)) a)) H.size) (cwV 0 hts gX10_calibrates_X10_settles rfl rfl rfl (by decide +kernel) ⟨Nat.le_of_ble_eq_true rfl, Nat.le_of_ble_eq_true rfl⟩) ⟨zP.blind, va_recv hK.1 hPc (ci := 9) (q0 := 0) rfl rfl, z_pre hK hPc hDc⟩ rfl rfl hl.1 rfl (lv_room (Nat.le_of_ble_eq_true rfl)) dX10_calibrates_15 ⟨Nat.le_of_ble_eq_true rfl, Nat.le_of_ble_eq_true rfl⟩) hP hD hS hA [0, 1] [] rfl rfl (by decide) (by decide) (fun H locs hP hD hS => ?_)
  have hP : va_P E.1 vwCl ([[(h0, .inr (9, [.int th, .ref k1, .int sd, .ref k2, .ref k3, .int ln, .int at0, .int pt, .int mi, .int nu, .long ha]))], [(k1, .inl (E.2 0, 1160, .inl (m_stA (upd sv (0 + 1) (m_bst (sv (0 + 0)) a)))))]] : List va_W).flatten H := hP
  have hD : va_D A ([[(h0, .inr (9, [.int th, .ref k1, .int sd, .ref k2, .ref k3, .int ln, .int at0, .int pt, .int mi, .int nu, .long ha]))], [(k1, .inl (E.2 0, 1160, .inl (m_stA (upd sv (0 + 1) (m_bst (sv (0 + 0)) a)))))]] : List va_W).flatten := hD
  refine W.eq (g2 := F0 Mi 18 ls []) rfl ?_
  have hP : va_P E.1 vwCl ([[(h0, .inr (9, [.int th, .ref k1, .int sd, .ref k2, .ref k3, .int ln, .int at0, .int pt, .int mi, .int nu, .long ha]))], [(k1, .inl (E.2 0, 1160, .inl (m_caT sv a)))]] : List va_W).flatten H := hP
  have hD : va_D A ([[(h0, .inr (9, [.int th, .ref k1, .int sd, .ref k2, .ref k3, .int ln, .int at0, .int pt, .int mi, .int nu, .long ha]))], [(k1, .inl (E.2 0, 1160, .inl (m_caT sv a)))]] : List va_W).flatten := hD
  refine lv_aload_n hx hb dX10_calibrates_18 rfl (lv_at hl 1 rfl) ?_
  refine va_get (D := E.1) (ci := 9) (v := .ref k1) (C := RX10) (T := TX10) (N := 11) hx hb hts hi_X10 hown hK.1 hP 0 rfl rfl 1 (by decide) (hts (.fieldLink RX10 7 "AltimeterWatchModel" "s" "[I") (by decide +kernel)) (fun _ h9 => h9) rfl dX10_calibrates_19 ?_
  refine lv_iconst (v := 5) hx hb dX10_calibrates_22 (by decide) ?_
  refine lv_dup2_11 hx hb dX10_calibrates_23 rfl rfl ?_
  refine z_iald (k := 5) hx hb hK.1 hP 1 rfl rfl (by decide) (by decide) dX10_calibrates_24 ?_
  refine lv_iload_n hx hb dX10_calibrates_25 rfl (lv_at hl 0 rfl) ?_
  refine lv_iadd hx hb dX10_calibrates_26 ?_
  refine z_iast (k := 5) hx hb hK.1 hP hD hS 1 rfl rfl (by decide) (by decide) dX10_calibrates_27 (fun H locs hP hD hS => ?_)
  have hP : va_P E.1 vwCl ([[(h0, .inr (9, [.int th, .ref k1, .int sd, .ref k2, .ref k3, .int ln, .int at0, .int pt, .int mi, .int nu, .long ha]))], [(k1, .inl (E.2 0, 1160, .inl (upd (m_caT sv a) 5 (((m_caT sv a) 5) + f_1))))]] : List va_W).flatten H := hP
  have hD : va_D A ([[(h0, .inr (9, [.int th, .ref k1, .int sd, .ref k2, .ref k3, .int ln, .int at0, .int pt, .int mi, .int nu, .long ha]))], [(k1, .inl (E.2 0, 1160, .inl (upd (m_caT sv a) 5 (((m_caT sv a) 5) + f_1))))]] : List va_W).flatten := hD
  refine lv_aload_n hx hb dX10_calibrates_28 rfl (lv_at hl 1 rfl) ?_
  refine va_get (D := E.1) (ci := 9) (v := .ref k1) (C := RX10) (T := TX10) (N := 11) hx hb hts hi_X10 hown hK.1 hP 0 rfl rfl 1 (by decide) (hts (.fieldLink RX10 7 "AltimeterWatchModel" "s" "[I") (by decide +kernel)) (fun _ h9 => h9) rfl dX10_calibrates_29 ?_
  refine lv_bipush (v := 6) hx hb dX10_calibrates_32 (by decide) ?_
  refine lv_dup2_11 hx hb dX10_calibrates_34 rfl rfl ?_
  refine z_iald (k := 6) hx hb hK.1 hP 1 rfl rfl (by decide) (by decide) dX10_calibrates_35 ?_
  refine z_topi (y := ((m_caT sv a) 6)) (by simp [upd]) ?_
  refine lv_iconst (v := 1) hx hb dX10_calibrates_36 (by decide) ?_
  refine lv_iadd hx hb dX10_calibrates_37 ?_
  refine z_iast (k := 6) hx hb hK.1 hP hD hS 1 rfl rfl (by decide) (by decide) dX10_calibrates_38 (fun H locs hP hD hS => ?_)
  have hP : va_P E.1 vwCl ([[(h0, .inr (9, [.int th, .ref k1, .int sd, .ref k2, .ref k3, .int ln, .int at0, .int pt, .int mi, .int nu, .long ha]))], [(k1, .inl (E.2 0, 1160, .inl (upd (upd (m_caT sv a) 5 (((m_caT sv a) 5) + f_1)) 6 (((m_caT sv a) 6) + 1))))]] : List va_W).flatten H := hP
  have hD : va_D A ([[(h0, .inr (9, [.int th, .ref k1, .int sd, .ref k2, .ref k3, .int ln, .int at0, .int pt, .int mi, .int nu, .long ha]))], [(k1, .inl (E.2 0, 1160, .inl (upd (upd (m_caT sv a) 5 (((m_caT sv a) 5) + f_1)) 6 (((m_caT sv a) 6) + 1))))]] : List va_W).flatten := hD
  refine lv_iload_n hx hb dX10_calibrates_39 rfl (lv_at hl 0 rfl) ?_
  refine z_topi (y := m_std (sv (0 + 0)) - m_std (sv (0 + 1)) - a) ef_1 ?_
  have hP : va_P E.1 vwCl ([[(h0, .inr (9, [.int th, .ref k1, .int sd, .ref k2, .ref k3, .int ln, .int at0, .int pt, .int mi, .int nu, .long ha]))], [(k1, .inl (E.2 0, 1160, .inl (upd (upd (m_caT sv a) 5 (((m_caT sv a) 5) + f_1)) 6 (((m_caT sv a) 6) + 1))))]] : List va_W).flatten H := zf_sub hP [0, 1] rfl
  have hD : va_D A ([[(h0, .inr (9, [.int th, .ref k1, .int sd, .ref k2, .ref k3, .int ln, .int at0, .int pt, .int mi, .int nu, .long ha]))], [(k1, .inl (E.2 0, 1160, .inl (upd (upd (m_caT sv a) 5 (((m_caT sv a) 5) + f_1)) 6 (((m_caT sv a) 6) + 1))))]] : List va_W).flatten := zf_subD hD [0, 1] (by decide) rfl
  exact W.iret (v := m_std (sv (0 + 0)) - m_std (sv (0 + 1)) - a) hx hb hr (z_end hP hD hS (by rw [m_caA, ← ef_1])) hS.2.2 dX10_calibrates_40 hlocks

set_option maxHeartbeats 4000000 in
set_option maxRecDepth 100000 in
theorem c_X10_marked (l : Launch) (E : zE) (h0 k1 k2 k3 : Nat) (th sd ln at0 pt mi nu : Int32) (ha : Int64) (sv : Nat → Int32) (c0 : Nat) (hc : sv 75 = nI c0) (hc9 : c0 ≤ 10) : zM l yX10_marked wsX10_marked ({ frames := 2, cells := 0, slots := 0, locals := 42 }) E [.ref h0] ([[(h0, .inr (9, [.int th, .ref k1, .int sd, .ref k2, .ref k3, .int ln, .int at0, .int pt, .int mi, .int nu, .long ha]))], [(k1, .inl (E.2 0, 1160, .inl sv))]] : List va_W).flatten (some (.int (nI (m_mkN c0 + 1)))) ([[(h0, .inr (9, [.int th, .ref k1, .int sd, .ref k2, .ref k3, .int ln, .int at0, .int pt, .int mi, .int nu, .long ha]))], [(k1, .inl (E.2 0, 1160, .inl (m_mkA sv c0)))]] : List va_W).flatten 0 0 := by
  refine z_start (cc := cX10_marked) (maxL := 2) (ret := (some .int)) (by decide) rfl (Nat.le_of_ble_eq_true rfl) ?_
  intro Pg En s Mi below meth Cd A hx hb hr hts hown hlocks hin hml hA H hH hP hK hD hS ls hl
  have hl : lv_has ls 2 [(0, .ref h0)] := hl
  have hi_X10 : ∀ w ∈ wsX100, w ∈ wsX10_marked := by decide +kernel
  have LOOP_2 : ∀ (kz : Nat) (i : Nat) (x : Int32), 36 < i + kz → i ≤ 36 → x = nI i → i = 0 ∨ sv 75 = 10 →  ∀ (H : Heap) (locs : List Loc), va_P E.1 vwCl ([[(h0, .inr (9, [.int th, .ref k1, .int sd, .ref k2, .ref k3, .int ln, .int at0, .int pt, .int mi, .int nu, .long ha]))], [(k1, .inl (E.2 0, 1160, .inl (m_s4 sv i)))]] : List va_W).flatten H → va_D A ([[(h0, .inr (9, [.int th, .ref k1, .int sd, .ref k2, .ref k3, .int ln, .int at0, .int pt, .int mi, .int nu, .long ha]))], [(k1, .inl (E.2 0, 1160, .inl (m_s4 sv i)))]] : List va_W).flatten → va_S A s.heap H locs → ∀ (ls : Array Slot), lv_has ls 2 [(0, .ref h0), (1, .int x)] → W Pg l En ({ frames := 2, cells := 0, slots := 0, locals := 42 } : Room) s Mi ([.ref h0] : List Value).toArray below meth Cd H locs 0 0 (MQ below (zQ (some (.int (nI (m_mkN c0 + 1)))) (zB E ([[(h0, .inr (9, [.int th, .ref k1, .int sd, .ref k2, .ref k3, .int ln, .int at0, .int pt, .int mi, .int nu, .long ha]))], [(k1, .inl (E.2 0, 1160, .inl (m_mkA sv c0)))]] : List va_W).flatten A) A) ([.ref h0] : List Value).toArray s 0 0 A) (F0 Mi 2 ls []) := by
    intro kz
    induction kz with
    | zero => intro i x h1 h2 h3 h7; exact absurd h1 (by omega)
    | succ kz ih =>
      intro i x h1 h2 h3 h7 H locs hP hD hS ls hl
      refine lv_iload_n hx hb dX10_marked_2 rfl (lv_at hl 1 rfl) ?_
      refine lv_bipush (v := 36) hx hb dX10_marked_3 (by decide) ?_
      refine lv_icmp_ge (tgt := 46) hx hb dX10_marked_5 (by decide) (fun c_5 => ?_) (fun c_5 => ?_)
      · have e36 : i = 36 := by have := nI_len (a := 36) (b := i) (by decide) (by omega) (by rw [← h3]; exact c_5); omega
        have h10 : sv 75 = 10 := h7.resolve_left (by omega)
        have hc10 : c0 = 10 := by { have e9 := m_n_nI (n := c0) (by omega); rw [← hc, h10] at e9; exact e9.symm.trans (by decide) }
        rw [e36] at hP hD
        refine lv_aload_n hx hb dX10_marked_46 rfl (lv_at hl 0 rfl) ?_
        refine va_get (D := E.1) (ci := 9) (v := .ref k1) (C := RX10) (T := TX10) (N := 11) hx hb hts hi_X10 hown hK.1 hP 0 rfl rfl 1 (by decide) (hts (.fieldLink RX10 7 "AltimeterWatchModel" "s" "[I") (by decide +kernel)) (fun _ h9 => h9) rfl dX10_marked_47 ?_
        refine lv_bipush (v := 75) hx hb dX10_marked_50 (by decide) ?_
        refine lv_dup2_11 hx hb dX10_marked_52 rfl rfl ?_
        refine z_iald (k := 75) hx hb hK.1 hP 1 rfl rfl (by decide) (by decide) dX10_marked_53 ?_
        refine z_topi (y := (sv 75)) (by (repeat rw [k_un (by omega)]) <;> first | rfl | (rw [m_s4_lo (by omega)]; done) | (rw [m_s4_lo (by omega), m_s4_lo (by omega)]; done)) ?_
        refine lv_aload_n hx hb dX10_marked_54 rfl (lv_at hl 0 rfl) ?_
        refine va_get (D := E.1) (ci := 9) (v := .ref k1) (C := RX10) (T := TX10) (N := 11) hx hb hts hi_X10 hown hK.1 hP 0 rfl rfl 1 (by decide) (hts (.fieldLink RX10 7 "AltimeterWatchModel" "s" "[I") (by decide +kernel)) (fun _ h9 => h9) rfl dX10_marked_55 ?_
        refine lv_bipush (v := 75) hx hb dX10_marked_58 (by decide) ?_
        refine z_iald (k := 75) hx hb hK.1 hP 1 rfl rfl (by decide) (by decide) dX10_marked_60 ?_
        refine z_topi (y := (sv 75)) (by (repeat rw [k_un (by omega)]) <;> first | rfl | (rw [m_s4_lo (by omega)]; done) | (rw [m_s4_lo (by omega), m_s4_lo (by omega)]; done)) ?_
        refine lv_bipush (v := 10) hx hb dX10_marked_61 (by decide) ?_
        refine lv_icmp_ne (tgt := 70) hx hb dX10_marked_63 (by decide) (fun h9 => absurd h9 ((fun h9 => h9 h10))) (fun _ => ?_)
        refine lv_iconst (v := 1) hx hb dX10_marked_66 (by decide) ?_
        refine lv_goto (tgt := 71) hx hb dX10_marked_67 (by decide) ?_
        refine lv_isub hx hb dX10_marked_71 ?_
        refine z_topi (y := (nI 9)) (by rw [h10]; rfl) ?_
        refine z_iast (k := 75) hx hb hK.1 hP hD hS 1 rfl rfl (by decide) (by decide) dX10_marked_72 (fun H locs hP hD hS => ?_)
        have hP : va_P E.1 vwCl ([[(h0, .inr (9, [.int th, .ref k1, .int sd, .ref k2, .ref k3, .int ln, .int at0, .int pt, .int mi, .int nu, .long ha]))], [(k1, .inl (E.2 0, 1160, .inl (upd (m_s4 sv 36) 75 (nI 9))))]] : List va_W).flatten H := hP
        have hD : va_D A ([[(h0, .inr (9, [.int th, .ref k1, .int sd, .ref k2, .ref k3, .int ln, .int at0, .int pt, .int mi, .int nu, .long ha]))], [(k1, .inl (E.2 0, 1160, .inl (upd (m_s4 sv 36) 75 (nI 9))))]] : List va_W).flatten := hD
        refine lv_bipush (v := 76) hx hb dX10_marked_73 (by decide) ?_
        refine lv_iconst (v := 4) hx hb dX10_marked_75 (by decide) ?_
        refine lv_aload_n hx hb dX10_marked_76 rfl (lv_at hl 0 rfl) ?_
        refine va_get (D := E.1) (ci := 9) (v := .ref k1) (C := RX10) (T := TX10) (N := 11) hx hb hts hi_X10 hown hK.1 hP 0 rfl rfl 1 (by decide) (hts (.fieldLink RX10 7 "AltimeterWatchModel" "s" "[I") (by decide +kernel)) (fun _ h9 => h9) rfl dX10_marked_77 ?_
        refine lv_bipush (v := 75) hx hb dX10_marked_80 (by decide) ?_
        refine z_iald (k := 75) hx hb hK.1 hP 1 rfl rfl (by decide) (by decide) dX10_marked_82 ?_
        refine z_topi (y := (nI 9)) (by simp [upd]) ?_
        refine lv_imul hx hb dX10_marked_83 ?_
        refine lv_iadd hx hb dX10_marked_84 ?_
        refine z_topi (y := (nI (76 + 4 * 9))) (z_addI rfl (z_mulI rfl rfl)) ?_
        refine lv_istore_n (lv' := [(1, .int (nI (76 + 4 * 9))), (0, .ref h0)]) hx hb dX10_marked_85 rfl hl (by decide) rfl (fun ls hl => ?_)
        refine lv_aload_n hx hb dX10_marked_86 rfl (lv_at hl 1 rfl) ?_
        refine va_get (D := E.1) (ci := 9) (v := .ref k1) (C := RX10) (T := TX10) (N := 11) hx hb hts hi_X10 hown hK.1 hP 0 rfl rfl 1 (by decide) (hts (.fieldLink RX10 7 "AltimeterWatchModel" "s" "[I") (by decide +kernel)) (fun _ h9 => h9) rfl dX10_marked_87 ?_
        refine lv_iload_n hx hb dX10_marked_90 rfl (lv_at hl 0 rfl) ?_
        refine lv_aload_n hx hb dX10_marked_91 rfl (lv_at hl 1 rfl) ?_
        refine va_get (D := E.1) (ci := 9) (v := .ref k1) (C := RX10) (T := TX10) (N := 11) hx hb hts hi_X10 hown hK.1 hP 0 rfl rfl 1 (by decide) (hts (.fieldLink RX10 7 "AltimeterWatchModel" "s" "[I") (by decide +kernel)) (fun _ h9 => h9) rfl dX10_marked_92 ?_
        refine lv_iconst (v := 4) hx hb dX10_marked_95 (by decide) ?_
        refine z_iald (k := 4) hx hb hK.1 hP 1 rfl rfl (by decide) (by decide) dX10_marked_96 ?_
        refine z_topi (y := ((m_s4 sv 36) 4)) (by simp [upd]) ?_
        refine z_topi (y := (sv 4)) (by (repeat rw [k_un (by omega)]) <;> first | rfl | (rw [m_s4_lo (by omega)]; done) | (rw [m_s4_lo (by omega), m_s4_lo (by omega)]; done)) ?_
        refine z_iast (k := (76 + 4 * 9)) hx hb hK.1 hP hD hS 1 rfl rfl (by omega) (by decide) dX10_marked_97 (fun H locs hP hD hS => ?_)
        have hP : va_P E.1 vwCl ([[(h0, .inr (9, [.int th, .ref k1, .int sd, .ref k2, .ref k3, .int ln, .int at0, .int pt, .int mi, .int nu, .long ha]))], [(k1, .inl (E.2 0, 1160, .inl (upd (upd (m_s4 sv 36) 75 (nI 9)) (76 + 4 * 9) (sv 4))))]] : List va_W).flatten H := hP
        have hD : va_D A ([[(h0, .inr (9, [.int th, .ref k1, .int sd, .ref k2, .ref k3, .int ln, .int at0, .int pt, .int mi, .int nu, .long ha]))], [(k1, .inl (E.2 0, 1160, .inl (upd (upd (m_s4 sv 36) 75 (nI 9)) (76 + 4 * 9) (sv 4))))]] : List va_W).flatten := hD
        refine lv_aload_n hx hb dX10_marked_98 rfl (lv_at hl 1 rfl) ?_
        refine va_get (D := E.1) (ci := 9) (v := .ref k1) (C := RX10) (T := TX10) (N := 11) hx hb hts hi_X10 hown hK.1 hP 0 rfl rfl 1 (by decide) (hts (.fieldLink RX10 7 "AltimeterWatchModel" "s" "[I") (by decide +kernel)) (fun _ h9 => h9) rfl dX10_marked_99 ?_
        refine lv_iload_n hx hb dX10_marked_102 rfl (lv_at hl 0 rfl) ?_
        refine lv_iconst (v := 1) hx hb dX10_marked_103 (by decide) ?_
        refine lv_iadd hx hb dX10_marked_104 ?_
        refine lv_aload_n hx hb dX10_marked_105 rfl (lv_at hl 1 rfl) ?_
        refine lv_iconst (v := 0) hx hb dX10_marked_106 (by decide) ?_
        have hPc : va_P E.1 vwCl ([[(h0, .inr (9, [.int th, .ref k1, .int sd, .ref k2, .ref k3, .int ln, .int at0, .int pt, .int mi, .int nu, .long ha]))], [(k1, .inl (E.2 0, 1160, .inl (upd (upd (m_s4 sv 36) 75 (nI 9)) (76 + 4 * 9) (sv 4))))]] : List va_W).flatten H := zf_sub hP [0, 1] rfl
        refine z_rdv (va_runV (As := [.int 0]) (rest := [.int ((nI (76 + 4 * 9)) + 1), .ref k1]) ⟨hx, hb, hml, hown, hts⟩ (c_X10_altitudeAt l E h0 k1 k2 k3 th sd ln at0 pt mi nu ha 0 0 rfl (by omega) (upd (upd (m_s4 sv 36) 75 (nI 9)) (76 + 4 * 9) (sv 4))) (cwV 1 hts gX10_marked_X10_altitudeAt rfl rfl rfl (by decide +kernel) ⟨Nat.le_of_ble_eq_true rfl, Nat.le_of_ble_eq_true rfl⟩) ⟨zPr.blind, va_recv hK.1 hPc (ci := 9) (q0 := 0) rfl rfl, z_prer hK hPc⟩ rfl rfl hl.1 rfl (lv_room (Nat.le_of_ble_eq_true rfl)) dX10_marked_107 ⟨Nat.le_of_ble_eq_true rfl, Nat.le_of_ble_eq_true rfl⟩) ?_
        refine W.eq (g2 := F0 Mi 110 ls [.int (m_std ((upd (upd (m_s4 sv 36) 75 (nI 9)) (76 + 4 * 9) (sv 4)) (0 + 0)) - m_std ((upd (upd (m_s4 sv 36) 75 (nI 9)) (76 + 4 * 9) (sv 4)) (0 + 1))), .int ((nI (76 + 4 * 9)) + 1), .ref k1]) rfl ?_
        refine z_topi (y := (m_std (sv 0) - m_std (sv 1))) (by (repeat rw [k_un (by omega)]) <;> first | rfl | (rw [m_s4_lo (by omega)]; done) | (rw [m_s4_lo (by omega), m_s4_lo (by omega)]; done)) ?_
        refine z_iast (k := ((76 + 4 * 9) + 1)) hx hb hK.1 hP hD hS 1 rfl (z_addI rfl rfl) (by omega) (by decide) dX10_marked_110 (fun H locs hP hD hS => ?_)
        have hP : va_P E.1 vwCl ([[(h0, .inr (9, [.int th, .ref k1, .int sd, .ref k2, .ref k3, .int ln, .int at0, .int pt, .int mi, .int nu, .long ha]))], [(k1, .inl (E.2 0, 1160, .inl (upd (upd (upd (m_s4 sv 36) 75 (nI 9)) (76 + 4 * 9) (sv 4)) ((76 + 4 * 9) + 1) (m_std (sv 0) - m_std (sv 1)))))]] : List va_W).flatten H := hP
        have hD : va_D A ([[(h0, .inr (9, [.int th, .ref k1, .int sd, .ref k2, .ref k3, .int ln, .int at0, .int pt, .int mi, .int nu, .long ha]))], [(k1, .inl (E.2 0, 1160, .inl (upd (upd (upd (m_s4 sv 36) 75 (nI 9)) (76 + 4 * 9) (sv 4)) ((76 + 4 * 9) + 1) (m_std (sv 0) - m_std (sv 1)))))]] : List va_W).flatten := hD
        refine lv_aload_n hx hb dX10_marked_111 rfl (lv_at hl 1 rfl) ?_
        refine va_get (D := E.1) (ci := 9) (v := .ref k1) (C := RX10) (T := TX10) (N := 11) hx hb hts hi_X10 hown hK.1 hP 0 rfl rfl 1 (by decide) (hts (.fieldLink RX10 7 "AltimeterWatchModel" "s" "[I") (by decide +kernel)) (fun _ h9 => h9) rfl dX10_marked_112 ?_
        refine lv_iload_n hx hb dX10_marked_115 rfl (lv_at hl 0 rfl) ?_
        refine lv_iconst (v := 2) hx hb dX10_marked_116 (by decide) ?_
        refine lv_iadd hx hb dX10_marked_117 ?_
        refine lv_aload_n hx hb dX10_marked_118 rfl (lv_at hl 1 rfl) ?_
        refine va_get (D := E.1) (ci := 9) (v := .ref k1) (C := RX10) (T := TX10) (N := 11) hx hb hts hi_X10 hown hK.1 hP 0 rfl rfl 1 (by decide) (hts (.fieldLink RX10 7 "AltimeterWatchModel" "s" "[I") (by decide +kernel)) (fun _ h9 => h9) rfl dX10_marked_119 ?_
        refine lv_bipush (v := 7) hx hb dX10_marked_122 (by decide) ?_
        refine z_iald (k := 7) hx hb hK.1 hP 1 rfl rfl (by decide) (by decide) dX10_marked_124 ?_
        refine z_topi (y := (sv 7)) (by (repeat rw [k_un (by omega)]) <;> first | rfl | (rw [m_s4_lo (by omega)]; done) | (rw [m_s4_lo (by omega), m_s4_lo (by omega)]; done)) ?_
        refine z_iast (k := ((76 + 4 * 9) + 2)) hx hb hK.1 hP hD hS 1 rfl (z_addI rfl rfl) (by omega) (by decide) dX10_marked_125 (fun H locs hP hD hS => ?_)
        have hP : va_P E.1 vwCl ([[(h0, .inr (9, [.int th, .ref k1, .int sd, .ref k2, .ref k3, .int ln, .int at0, .int pt, .int mi, .int nu, .long ha]))], [(k1, .inl (E.2 0, 1160, .inl (upd (upd (upd (upd (m_s4 sv 36) 75 (nI 9)) (76 + 4 * 9) (sv 4)) ((76 + 4 * 9) + 1) (m_std (sv 0) - m_std (sv 1))) ((76 + 4 * 9) + 2) (sv 7))))]] : List va_W).flatten H := hP
        have hD : va_D A ([[(h0, .inr (9, [.int th, .ref k1, .int sd, .ref k2, .ref k3, .int ln, .int at0, .int pt, .int mi, .int nu, .long ha]))], [(k1, .inl (E.2 0, 1160, .inl (upd (upd (upd (upd (m_s4 sv 36) 75 (nI 9)) (76 + 4 * 9) (sv 4)) ((76 + 4 * 9) + 1) (m_std (sv 0) - m_std (sv 1))) ((76 + 4 * 9) + 2) (sv 7))))]] : List va_W).flatten := hD
        refine lv_aload_n hx hb dX10_marked_126 rfl (lv_at hl 1 rfl) ?_
        refine va_get (D := E.1) (ci := 9) (v := .ref k1) (C := RX10) (T := TX10) (N := 11) hx hb hts hi_X10 hown hK.1 hP 0 rfl rfl 1 (by decide) (hts (.fieldLink RX10 7 "AltimeterWatchModel" "s" "[I") (by decide +kernel)) (fun _ h9 => h9) rfl dX10_marked_127 ?_
        refine lv_iload_n hx hb dX10_marked_130 rfl (lv_at hl 0 rfl) ?_
        refine lv_iconst (v := 3) hx hb dX10_marked_131 (by decide) ?_
        refine lv_iadd hx hb dX10_marked_132 ?_
        refine lv_aload_n hx hb dX10_marked_133 rfl (lv_at hl 1 rfl) ?_
        refine va_get (D := E.1) (ci := 9) (v := .ref k1) (C := RX10) (T := TX10) (N := 11) hx hb hts hi_X10 hown hK.1 hP 0 rfl rfl 1 (by decide) (hts (.fieldLink RX10 7 "AltimeterWatchModel" "s" "[I") (by decide +kernel)) (fun _ h9 => h9) rfl dX10_marked_134 ?_
        refine lv_bipush (v := 8) hx hb dX10_marked_137 (by decide) ?_
        refine z_iald (k := 8) hx hb hK.1 hP 1 rfl rfl (by decide) (by decide) dX10_marked_139 ?_
        refine z_topi (y := (sv 8)) (by (repeat rw [k_un (by omega)]) <;> first | rfl | (rw [m_s4_lo (by omega)]; done) | (rw [m_s4_lo (by omega), m_s4_lo (by omega)]; done)) ?_
        refine z_iast (k := ((76 + 4 * 9) + 3)) hx hb hK.1 hP hD hS 1 rfl (z_addI rfl rfl) (by omega) (by decide) dX10_marked_140 (fun H locs hP hD hS => ?_)
        have hP : va_P E.1 vwCl ([[(h0, .inr (9, [.int th, .ref k1, .int sd, .ref k2, .ref k3, .int ln, .int at0, .int pt, .int mi, .int nu, .long ha]))], [(k1, .inl (E.2 0, 1160, .inl (upd (upd (upd (upd (upd (m_s4 sv 36) 75 (nI 9)) (76 + 4 * 9) (sv 4)) ((76 + 4 * 9) + 1) (m_std (sv 0) - m_std (sv 1))) ((76 + 4 * 9) + 2) (sv 7)) ((76 + 4 * 9) + 3) (sv 8))))]] : List va_W).flatten H := hP
        have hD : va_D A ([[(h0, .inr (9, [.int th, .ref k1, .int sd, .ref k2, .ref k3, .int ln, .int at0, .int pt, .int mi, .int nu, .long ha]))], [(k1, .inl (E.2 0, 1160, .inl (upd (upd (upd (upd (upd (m_s4 sv 36) 75 (nI 9)) (76 + 4 * 9) (sv 4)) ((76 + 4 * 9) + 1) (m_std (sv 0) - m_std (sv 1))) ((76 + 4 * 9) + 2) (sv 7)) ((76 + 4 * 9) + 3) (sv 8))))]] : List va_W).flatten := hD
        refine lv_aload_n hx hb dX10_marked_141 rfl (lv_at hl 1 rfl) ?_
        refine va_get (D := E.1) (ci := 9) (v := .ref k1) (C := RX10) (T := TX10) (N := 11) hx hb hts hi_X10 hown hK.1 hP 0 rfl rfl 1 (by decide) (hts (.fieldLink RX10 7 "AltimeterWatchModel" "s" "[I") (by decide +kernel)) (fun _ h9 => h9) rfl dX10_marked_142 ?_
        refine lv_bipush (v := 75) hx hb dX10_marked_145 (by decide) ?_
        refine lv_dup2_11 hx hb dX10_marked_147 rfl rfl ?_
        refine z_iald (k := 75) hx hb hK.1 hP 1 rfl rfl (by decide) (by decide) dX10_marked_148 ?_
        refine z_topi (y := (nI 9)) (by (repeat rw [k_un (by omega)]); exact k_us) ?_
        refine lv_iconst (v := 1) hx hb dX10_marked_149 (by decide) ?_
        refine lv_iadd hx hb dX10_marked_150 ?_
        refine z_topi (y := (nI (9 + 1))) (nI_1 9) ?_
        refine z_iast (k := 75) hx hb hK.1 hP hD hS 1 rfl rfl (by decide) (by decide) dX10_marked_151 (fun H locs hP hD hS => ?_)
        have hP : va_P E.1 vwCl ([[(h0, .inr (9, [.int th, .ref k1, .int sd, .ref k2, .ref k3, .int ln, .int at0, .int pt, .int mi, .int nu, .long ha]))], [(k1, .inl (E.2 0, 1160, .inl (upd (upd (upd (upd (upd (upd (m_s4 sv 36) 75 (nI 9)) (76 + 4 * 9) (sv 4)) ((76 + 4 * 9) + 1) (m_std (sv 0) - m_std (sv 1))) ((76 + 4 * 9) + 2) (sv 7)) ((76 + 4 * 9) + 3) (sv 8)) 75 (nI (9 + 1)))))]] : List va_W).flatten H := hP
        have hD : va_D A ([[(h0, .inr (9, [.int th, .ref k1, .int sd, .ref k2, .ref k3, .int ln, .int at0, .int pt, .int mi, .int nu, .long ha]))], [(k1, .inl (E.2 0, 1160, .inl (upd (upd (upd (upd (upd (upd (m_s4 sv 36) 75 (nI 9)) (76 + 4 * 9) (sv 4)) ((76 + 4 * 9) + 1) (m_std (sv 0) - m_std (sv 1))) ((76 + 4 * 9) + 2) (sv 7)) ((76 + 4 * 9) + 3) (sv 8)) 75 (nI (9 + 1)))))]] : List va_W).flatten := hD
        refine lv_aload_n hx hb dX10_marked_152 rfl (lv_at hl 1 rfl) ?_
        refine va_get (D := E.1) (ci := 9) (v := .ref k1) (C := RX10) (T := TX10) (N := 11) hx hb hts hi_X10 hown hK.1 hP 0 rfl rfl 1 (by decide) (hts (.fieldLink RX10 7 "AltimeterWatchModel" "s" "[I") (by decide +kernel)) (fun _ h9 => h9) rfl dX10_marked_153 ?_
        refine lv_bipush (v := 75) hx hb dX10_marked_156 (by decide) ?_
        refine z_iald (k := 75) hx hb hK.1 hP 1 rfl rfl (by decide) (by decide) dX10_marked_158 ?_
        refine z_topi (y := (nI (9 + 1))) (by simp [upd]) ?_
        refine z_topi (y := nI (m_mkN c0 + 1)) (by rw [m_mkN, if_pos hc10]) ?_
        have hP : va_P E.1 vwCl ([[(h0, .inr (9, [.int th, .ref k1, .int sd, .ref k2, .ref k3, .int ln, .int at0, .int pt, .int mi, .int nu, .long ha]))], [(k1, .inl (E.2 0, 1160, .inl (upd (upd (upd (upd (upd (upd (m_s4 sv 36) 75 (nI 9)) (76 + 4 * 9) (sv 4)) ((76 + 4 * 9) + 1) (m_std (sv 0) - m_std (sv 1))) ((76 + 4 * 9) + 2) (sv 7)) ((76 + 4 * 9) + 3) (sv 8)) 75 (nI (9 + 1)))))]] : List va_W).flatten H := zf_sub hP [0, 1] rfl
        have hD : va_D A ([[(h0, .inr (9, [.int th, .ref k1, .int sd, .ref k2, .ref k3, .int ln, .int at0, .int pt, .int mi, .int nu, .long ha]))], [(k1, .inl (E.2 0, 1160, .inl (upd (upd (upd (upd (upd (upd (m_s4 sv 36) 75 (nI 9)) (76 + 4 * 9) (sv 4)) ((76 + 4 * 9) + 1) (m_std (sv 0) - m_std (sv 1))) ((76 + 4 * 9) + 2) (sv 7)) ((76 + 4 * 9) + 3) (sv 8)) 75 (nI (9 + 1)))))]] : List va_W).flatten := zf_subD hD [0, 1] (by decide) rfl
        exact W.iret (v := nI (m_mkN c0 + 1)) hx hb hr (z_end hP hD hS (by rw [m_mkA, m_mkN, m_mkT, if_pos hc10, if_pos hc10])) hS.2.2 dX10_marked_159 hlocks
      · refine lv_aload_n hx hb dX10_marked_8 rfl (lv_at hl 0 rfl) ?_
        refine va_get (D := E.1) (ci := 9) (v := .ref k1) (C := RX10) (T := TX10) (N := 11) hx hb hts hi_X10 hown hK.1 hP 0 rfl rfl 1 (by decide) (hts (.fieldLink RX10 7 "AltimeterWatchModel" "s" "[I") (by decide +kernel)) (fun _ h9 => h9) rfl dX10_marked_9 ?_
        refine lv_bipush (v := 75) hx hb dX10_marked_12 (by decide) ?_
        refine z_iald (k := 75) hx hb hK.1 hP 1 rfl rfl (by decide) (by decide) dX10_marked_14 ?_
        refine z_topi (y := (sv 75)) (m_s4_lo (by omega) _) ?_
        refine lv_bipush (v := 10) hx hb dX10_marked_15 (by decide) ?_
        refine lv_icmp_ne (tgt := 46) hx hb dX10_marked_17 (by decide) (fun c_17 => ?_) (fun c_17 => ?_)
        · have hc10 : ¬ c0 = 10 := fun h9 => c_17 (by rw [hc, h9]; rfl)
          rw [show i = 0 from h7.resolve_right c_17] at hP hD
          have hP : va_P E.1 vwCl ([[(h0, .inr (9, [.int th, .ref k1, .int sd, .ref k2, .ref k3, .int ln, .int at0, .int pt, .int mi, .int nu, .long ha]))], [(k1, .inl (E.2 0, 1160, .inl sv))]] : List va_W).flatten H := hP
          have hD : va_D A ([[(h0, .inr (9, [.int th, .ref k1, .int sd, .ref k2, .ref k3, .int ln, .int at0, .int pt, .int mi, .int nu, .long ha]))], [(k1, .inl (E.2 0, 1160, .inl sv))]] : List va_W).flatten := hD
          refine lv_aload_n hx hb dX10_marked_46 rfl (lv_at hl 0 rfl) ?_
          refine va_get (D := E.1) (ci := 9) (v := .ref k1) (C := RX10) (T := TX10) (N := 11) hx hb hts hi_X10 hown hK.1 hP 0 rfl rfl 1 (by decide) (hts (.fieldLink RX10 7 "AltimeterWatchModel" "s" "[I") (by decide +kernel)) (fun _ h9 => h9) rfl dX10_marked_47 ?_
          refine lv_bipush (v := 75) hx hb dX10_marked_50 (by decide) ?_
          refine lv_dup2_11 hx hb dX10_marked_52 rfl rfl ?_
          refine z_iald (k := 75) hx hb hK.1 hP 1 rfl rfl (by decide) (by decide) dX10_marked_53 ?_
          refine lv_aload_n hx hb dX10_marked_54 rfl (lv_at hl 0 rfl) ?_
          refine va_get (D := E.1) (ci := 9) (v := .ref k1) (C := RX10) (T := TX10) (N := 11) hx hb hts hi_X10 hown hK.1 hP 0 rfl rfl 1 (by decide) (hts (.fieldLink RX10 7 "AltimeterWatchModel" "s" "[I") (by decide +kernel)) (fun _ h9 => h9) rfl dX10_marked_55 ?_
          refine lv_bipush (v := 75) hx hb dX10_marked_58 (by decide) ?_
          refine z_iald (k := 75) hx hb hK.1 hP 1 rfl rfl (by decide) (by decide) dX10_marked_60 ?_
          refine lv_bipush (v := 10) hx hb dX10_marked_61 (by decide) ?_
          refine lv_icmp_ne (tgt := 70) hx hb dX10_marked_63 (by decide) (fun _ => ?_) (fun h9 => absurd h9 (c_17))
          refine lv_iconst (v := 0) hx hb dX10_marked_70 (by decide) ?_
          refine lv_isub hx hb dX10_marked_71 ?_
          refine z_topi (y := (nI c0)) (by rw [hc]; simp) ?_
          refine z_iast (k := 75) hx hb hK.1 hP hD hS 1 rfl rfl (by decide) (by decide) dX10_marked_72 (fun H locs hP hD hS => ?_)
          have hP : va_P E.1 vwCl ([[(h0, .inr (9, [.int th, .ref k1, .int sd, .ref k2, .ref k3, .int ln, .int at0, .int pt, .int mi, .int nu, .long ha]))], [(k1, .inl (E.2 0, 1160, .inl (upd sv 75 (nI c0))))]] : List va_W).flatten H := hP
          have hD : va_D A ([[(h0, .inr (9, [.int th, .ref k1, .int sd, .ref k2, .ref k3, .int ln, .int at0, .int pt, .int mi, .int nu, .long ha]))], [(k1, .inl (E.2 0, 1160, .inl (upd sv 75 (nI c0))))]] : List va_W).flatten := hD
          refine lv_bipush (v := 76) hx hb dX10_marked_73 (by decide) ?_
          refine lv_iconst (v := 4) hx hb dX10_marked_75 (by decide) ?_
          refine lv_aload_n hx hb dX10_marked_76 rfl (lv_at hl 0 rfl) ?_
          refine va_get (D := E.1) (ci := 9) (v := .ref k1) (C := RX10) (T := TX10) (N := 11) hx hb hts hi_X10 hown hK.1 hP 0 rfl rfl 1 (by decide) (hts (.fieldLink RX10 7 "AltimeterWatchModel" "s" "[I") (by decide +kernel)) (fun _ h9 => h9) rfl dX10_marked_77 ?_
          refine lv_bipush (v := 75) hx hb dX10_marked_80 (by decide) ?_
          refine z_iald (k := 75) hx hb hK.1 hP 1 rfl rfl (by decide) (by decide) dX10_marked_82 ?_
          refine z_topi (y := (nI c0)) (by simp [upd]) ?_
          refine lv_imul hx hb dX10_marked_83 ?_
          refine lv_iadd hx hb dX10_marked_84 ?_
          refine z_topi (y := (nI (76 + 4 * c0))) (z_addI rfl (z_mulI rfl rfl)) ?_
          refine lv_istore_n (lv' := [(1, .int (nI (76 + 4 * c0))), (0, .ref h0)]) hx hb dX10_marked_85 rfl hl (by decide) rfl (fun ls hl => ?_)
          refine lv_aload_n hx hb dX10_marked_86 rfl (lv_at hl 1 rfl) ?_
          refine va_get (D := E.1) (ci := 9) (v := .ref k1) (C := RX10) (T := TX10) (N := 11) hx hb hts hi_X10 hown hK.1 hP 0 rfl rfl 1 (by decide) (hts (.fieldLink RX10 7 "AltimeterWatchModel" "s" "[I") (by decide +kernel)) (fun _ h9 => h9) rfl dX10_marked_87 ?_
          refine lv_iload_n hx hb dX10_marked_90 rfl (lv_at hl 0 rfl) ?_
          refine lv_aload_n hx hb dX10_marked_91 rfl (lv_at hl 1 rfl) ?_
          refine va_get (D := E.1) (ci := 9) (v := .ref k1) (C := RX10) (T := TX10) (N := 11) hx hb hts hi_X10 hown hK.1 hP 0 rfl rfl 1 (by decide) (hts (.fieldLink RX10 7 "AltimeterWatchModel" "s" "[I") (by decide +kernel)) (fun _ h9 => h9) rfl dX10_marked_92 ?_
          refine lv_iconst (v := 4) hx hb dX10_marked_95 (by decide) ?_
          refine z_iald (k := 4) hx hb hK.1 hP 1 rfl rfl (by decide) (by decide) dX10_marked_96 ?_
          refine z_topi (y := (sv 4)) (by simp [upd]) ?_
          refine z_topi (y := (sv 4)) (by (repeat rw [k_un (by omega)]) <;> first | rfl | (rw [m_s4_lo (by omega)]; done) | (rw [m_s4_lo (by omega), m_s4_lo (by omega)]; done)) ?_
          refine z_iast (k := (76 + 4 * c0)) hx hb hK.1 hP hD hS 1 rfl rfl (by omega) (by decide) dX10_marked_97 (fun H locs hP hD hS => ?_)
          have hP : va_P E.1 vwCl ([[(h0, .inr (9, [.int th, .ref k1, .int sd, .ref k2, .ref k3, .int ln, .int at0, .int pt, .int mi, .int nu, .long ha]))], [(k1, .inl (E.2 0, 1160, .inl (upd (upd sv 75 (nI c0)) (76 + 4 * c0) (sv 4))))]] : List va_W).flatten H := hP
          have hD : va_D A ([[(h0, .inr (9, [.int th, .ref k1, .int sd, .ref k2, .ref k3, .int ln, .int at0, .int pt, .int mi, .int nu, .long ha]))], [(k1, .inl (E.2 0, 1160, .inl (upd (upd sv 75 (nI c0)) (76 + 4 * c0) (sv 4))))]] : List va_W).flatten := hD
          refine lv_aload_n hx hb dX10_marked_98 rfl (lv_at hl 1 rfl) ?_
          refine va_get (D := E.1) (ci := 9) (v := .ref k1) (C := RX10) (T := TX10) (N := 11) hx hb hts hi_X10 hown hK.1 hP 0 rfl rfl 1 (by decide) (hts (.fieldLink RX10 7 "AltimeterWatchModel" "s" "[I") (by decide +kernel)) (fun _ h9 => h9) rfl dX10_marked_99 ?_
          refine lv_iload_n hx hb dX10_marked_102 rfl (lv_at hl 0 rfl) ?_
          refine lv_iconst (v := 1) hx hb dX10_marked_103 (by decide) ?_
          refine lv_iadd hx hb dX10_marked_104 ?_
          refine lv_aload_n hx hb dX10_marked_105 rfl (lv_at hl 1 rfl) ?_
          refine lv_iconst (v := 0) hx hb dX10_marked_106 (by decide) ?_
          have hPc : va_P E.1 vwCl ([[(h0, .inr (9, [.int th, .ref k1, .int sd, .ref k2, .ref k3, .int ln, .int at0, .int pt, .int mi, .int nu, .long ha]))], [(k1, .inl (E.2 0, 1160, .inl (upd (upd sv 75 (nI c0)) (76 + 4 * c0) (sv 4))))]] : List va_W).flatten H := zf_sub hP [0, 1] rfl
          refine z_rdv (va_runV (As := [.int 0]) (rest := [.int ((nI (76 + 4 * c0)) + 1), .ref k1]) ⟨hx, hb, hml, hown, hts⟩ (c_X10_altitudeAt l E h0 k1 k2 k3 th sd ln at0 pt mi nu ha 0 0 rfl (by omega) (upd (upd sv 75 (nI c0)) (76 + 4 * c0) (sv 4))) (cwV 1 hts gX10_marked_X10_altitudeAt rfl rfl rfl (by decide +kernel) ⟨Nat.le_of_ble_eq_true rfl, Nat.le_of_ble_eq_true rfl⟩) ⟨zPr.blind, va_recv hK.1 hPc (ci := 9) (q0 := 0) rfl rfl, z_prer hK hPc⟩ rfl rfl hl.1 rfl (lv_room (Nat.le_of_ble_eq_true rfl)) dX10_marked_107 ⟨Nat.le_of_ble_eq_true rfl, Nat.le_of_ble_eq_true rfl⟩) ?_
          refine W.eq (g2 := F0 Mi 110 ls [.int (m_std ((upd (upd sv 75 (nI c0)) (76 + 4 * c0) (sv 4)) (0 + 0)) - m_std ((upd (upd sv 75 (nI c0)) (76 + 4 * c0) (sv 4)) (0 + 1))), .int ((nI (76 + 4 * c0)) + 1), .ref k1]) rfl ?_
          refine z_topi (y := (m_std (sv 0) - m_std (sv 1))) (by (repeat rw [k_un (by omega)]) <;> first | rfl | (rw [m_s4_lo (by omega)]; done) | (rw [m_s4_lo (by omega), m_s4_lo (by omega)]; done)) ?_
          refine z_iast (k := ((76 + 4 * c0) + 1)) hx hb hK.1 hP hD hS 1 rfl (z_addI rfl rfl) (by omega) (by decide) dX10_marked_110 (fun H locs hP hD hS => ?_)
          have hP : va_P E.1 vwCl ([[(h0, .inr (9, [.int th, .ref k1, .int sd, .ref k2, .ref k3, .int ln, .int at0, .int pt, .int mi, .int nu, .long ha]))], [(k1, .inl (E.2 0, 1160, .inl (upd (upd (upd sv 75 (nI c0)) (76 + 4 * c0) (sv 4)) ((76 + 4 * c0) + 1) (m_std (sv 0) - m_std (sv 1)))))]] : List va_W).flatten H := hP
          have hD : va_D A ([[(h0, .inr (9, [.int th, .ref k1, .int sd, .ref k2, .ref k3, .int ln, .int at0, .int pt, .int mi, .int nu, .long ha]))], [(k1, .inl (E.2 0, 1160, .inl (upd (upd (upd sv 75 (nI c0)) (76 + 4 * c0) (sv 4)) ((76 + 4 * c0) + 1) (m_std (sv 0) - m_std (sv 1)))))]] : List va_W).flatten := hD
          refine lv_aload_n hx hb dX10_marked_111 rfl (lv_at hl 1 rfl) ?_
          refine va_get (D := E.1) (ci := 9) (v := .ref k1) (C := RX10) (T := TX10) (N := 11) hx hb hts hi_X10 hown hK.1 hP 0 rfl rfl 1 (by decide) (hts (.fieldLink RX10 7 "AltimeterWatchModel" "s" "[I") (by decide +kernel)) (fun _ h9 => h9) rfl dX10_marked_112 ?_
          refine lv_iload_n hx hb dX10_marked_115 rfl (lv_at hl 0 rfl) ?_
          refine lv_iconst (v := 2) hx hb dX10_marked_116 (by decide) ?_
          refine lv_iadd hx hb dX10_marked_117 ?_
          refine lv_aload_n hx hb dX10_marked_118 rfl (lv_at hl 1 rfl) ?_
          refine va_get (D := E.1) (ci := 9) (v := .ref k1) (C := RX10) (T := TX10) (N := 11) hx hb hts hi_X10 hown hK.1 hP 0 rfl rfl 1 (by decide) (hts (.fieldLink RX10 7 "AltimeterWatchModel" "s" "[I") (by decide +kernel)) (fun _ h9 => h9) rfl dX10_marked_119 ?_
          refine lv_bipush (v := 7) hx hb dX10_marked_122 (by decide) ?_
          refine z_iald (k := 7) hx hb hK.1 hP 1 rfl rfl (by decide) (by decide) dX10_marked_124 ?_
          refine z_topi (y := (sv 7)) (by (repeat rw [k_un (by omega)]) <;> first | rfl | (rw [m_s4_lo (by omega)]; done) | (rw [m_s4_lo (by omega), m_s4_lo (by omega)]; done)) ?_
          refine z_iast (k := ((76 + 4 * c0) + 2)) hx hb hK.1 hP hD hS 1 rfl (z_addI rfl rfl) (by omega) (by decide) dX10_marked_125 (fun H locs hP hD hS => ?_)
          have hP : va_P E.1 vwCl ([[(h0, .inr (9, [.int th, .ref k1, .int sd, .ref k2, .ref k3, .int ln, .int at0, .int pt, .int mi, .int nu, .long ha]))], [(k1, .inl (E.2 0, 1160, .inl (upd (upd (upd (upd sv 75 (nI c0)) (76 + 4 * c0) (sv 4)) ((76 + 4 * c0) + 1) (m_std (sv 0) - m_std (sv 1))) ((76 + 4 * c0) + 2) (sv 7))))]] : List va_W).flatten H := hP
          have hD : va_D A ([[(h0, .inr (9, [.int th, .ref k1, .int sd, .ref k2, .ref k3, .int ln, .int at0, .int pt, .int mi, .int nu, .long ha]))], [(k1, .inl (E.2 0, 1160, .inl (upd (upd (upd (upd sv 75 (nI c0)) (76 + 4 * c0) (sv 4)) ((76 + 4 * c0) + 1) (m_std (sv 0) - m_std (sv 1))) ((76 + 4 * c0) + 2) (sv 7))))]] : List va_W).flatten := hD
          refine lv_aload_n hx hb dX10_marked_126 rfl (lv_at hl 1 rfl) ?_
          refine va_get (D := E.1) (ci := 9) (v := .ref k1) (C := RX10) (T := TX10) (N := 11) hx hb hts hi_X10 hown hK.1 hP 0 rfl rfl 1 (by decide) (hts (.fieldLink RX10 7 "AltimeterWatchModel" "s" "[I") (by decide +kernel)) (fun _ h9 => h9) rfl dX10_marked_127 ?_
          refine lv_iload_n hx hb dX10_marked_130 rfl (lv_at hl 0 rfl) ?_
          refine lv_iconst (v := 3) hx hb dX10_marked_131 (by decide) ?_
          refine lv_iadd hx hb dX10_marked_132 ?_
          refine lv_aload_n hx hb dX10_marked_133 rfl (lv_at hl 1 rfl) ?_
          refine va_get (D := E.1) (ci := 9) (v := .ref k1) (C := RX10) (T := TX10) (N := 11) hx hb hts hi_X10 hown hK.1 hP 0 rfl rfl 1 (by decide) (hts (.fieldLink RX10 7 "AltimeterWatchModel" "s" "[I") (by decide +kernel)) (fun _ h9 => h9) rfl dX10_marked_134 ?_
          refine lv_bipush (v := 8) hx hb dX10_marked_137 (by decide) ?_
          refine z_iald (k := 8) hx hb hK.1 hP 1 rfl rfl (by decide) (by decide) dX10_marked_139 ?_
          refine z_topi (y := (sv 8)) (by (repeat rw [k_un (by omega)]) <;> first | rfl | (rw [m_s4_lo (by omega)]; done) | (rw [m_s4_lo (by omega), m_s4_lo (by omega)]; done)) ?_
          refine z_iast (k := ((76 + 4 * c0) + 3)) hx hb hK.1 hP hD hS 1 rfl (z_addI rfl rfl) (by omega) (by decide) dX10_marked_140 (fun H locs hP hD hS => ?_)
          have hP : va_P E.1 vwCl ([[(h0, .inr (9, [.int th, .ref k1, .int sd, .ref k2, .ref k3, .int ln, .int at0, .int pt, .int mi, .int nu, .long ha]))], [(k1, .inl (E.2 0, 1160, .inl (upd (upd (upd (upd (upd sv 75 (nI c0)) (76 + 4 * c0) (sv 4)) ((76 + 4 * c0) + 1) (m_std (sv 0) - m_std (sv 1))) ((76 + 4 * c0) + 2) (sv 7)) ((76 + 4 * c0) + 3) (sv 8))))]] : List va_W).flatten H := hP
          have hD : va_D A ([[(h0, .inr (9, [.int th, .ref k1, .int sd, .ref k2, .ref k3, .int ln, .int at0, .int pt, .int mi, .int nu, .long ha]))], [(k1, .inl (E.2 0, 1160, .inl (upd (upd (upd (upd (upd sv 75 (nI c0)) (76 + 4 * c0) (sv 4)) ((76 + 4 * c0) + 1) (m_std (sv 0) - m_std (sv 1))) ((76 + 4 * c0) + 2) (sv 7)) ((76 + 4 * c0) + 3) (sv 8))))]] : List va_W).flatten := hD
          refine lv_aload_n hx hb dX10_marked_141 rfl (lv_at hl 1 rfl) ?_
          refine va_get (D := E.1) (ci := 9) (v := .ref k1) (C := RX10) (T := TX10) (N := 11) hx hb hts hi_X10 hown hK.1 hP 0 rfl rfl 1 (by decide) (hts (.fieldLink RX10 7 "AltimeterWatchModel" "s" "[I") (by decide +kernel)) (fun _ h9 => h9) rfl dX10_marked_142 ?_
          refine lv_bipush (v := 75) hx hb dX10_marked_145 (by decide) ?_
          refine lv_dup2_11 hx hb dX10_marked_147 rfl rfl ?_
          refine z_iald (k := 75) hx hb hK.1 hP 1 rfl rfl (by decide) (by decide) dX10_marked_148 ?_
          refine z_topi (y := (nI c0)) (by (repeat rw [k_un (by omega)]); exact k_us) ?_
          refine lv_iconst (v := 1) hx hb dX10_marked_149 (by decide) ?_
          refine lv_iadd hx hb dX10_marked_150 ?_
          refine z_topi (y := (nI (c0 + 1))) (nI_1 c0) ?_
          refine z_iast (k := 75) hx hb hK.1 hP hD hS 1 rfl rfl (by decide) (by decide) dX10_marked_151 (fun H locs hP hD hS => ?_)
          have hP : va_P E.1 vwCl ([[(h0, .inr (9, [.int th, .ref k1, .int sd, .ref k2, .ref k3, .int ln, .int at0, .int pt, .int mi, .int nu, .long ha]))], [(k1, .inl (E.2 0, 1160, .inl (upd (upd (upd (upd (upd (upd sv 75 (nI c0)) (76 + 4 * c0) (sv 4)) ((76 + 4 * c0) + 1) (m_std (sv 0) - m_std (sv 1))) ((76 + 4 * c0) + 2) (sv 7)) ((76 + 4 * c0) + 3) (sv 8)) 75 (nI (c0 + 1)))))]] : List va_W).flatten H := hP
          have hD : va_D A ([[(h0, .inr (9, [.int th, .ref k1, .int sd, .ref k2, .ref k3, .int ln, .int at0, .int pt, .int mi, .int nu, .long ha]))], [(k1, .inl (E.2 0, 1160, .inl (upd (upd (upd (upd (upd (upd sv 75 (nI c0)) (76 + 4 * c0) (sv 4)) ((76 + 4 * c0) + 1) (m_std (sv 0) - m_std (sv 1))) ((76 + 4 * c0) + 2) (sv 7)) ((76 + 4 * c0) + 3) (sv 8)) 75 (nI (c0 + 1)))))]] : List va_W).flatten := hD
          refine lv_aload_n hx hb dX10_marked_152 rfl (lv_at hl 1 rfl) ?_
          refine va_get (D := E.1) (ci := 9) (v := .ref k1) (C := RX10) (T := TX10) (N := 11) hx hb hts hi_X10 hown hK.1 hP 0 rfl rfl 1 (by decide) (hts (.fieldLink RX10 7 "AltimeterWatchModel" "s" "[I") (by decide +kernel)) (fun _ h9 => h9) rfl dX10_marked_153 ?_
          refine lv_bipush (v := 75) hx hb dX10_marked_156 (by decide) ?_
          refine z_iald (k := 75) hx hb hK.1 hP 1 rfl rfl (by decide) (by decide) dX10_marked_158 ?_
          refine z_topi (y := (nI (c0 + 1))) (by simp [upd]) ?_
          refine z_topi (y := nI (m_mkN c0 + 1)) (by rw [m_mkN, if_neg hc10]) ?_
          have hP : va_P E.1 vwCl ([[(h0, .inr (9, [.int th, .ref k1, .int sd, .ref k2, .ref k3, .int ln, .int at0, .int pt, .int mi, .int nu, .long ha]))], [(k1, .inl (E.2 0, 1160, .inl (upd (upd (upd (upd (upd (upd sv 75 (nI c0)) (76 + 4 * c0) (sv 4)) ((76 + 4 * c0) + 1) (m_std (sv 0) - m_std (sv 1))) ((76 + 4 * c0) + 2) (sv 7)) ((76 + 4 * c0) + 3) (sv 8)) 75 (nI (c0 + 1)))))]] : List va_W).flatten H := zf_sub hP [0, 1] rfl
          have hD : va_D A ([[(h0, .inr (9, [.int th, .ref k1, .int sd, .ref k2, .ref k3, .int ln, .int at0, .int pt, .int mi, .int nu, .long ha]))], [(k1, .inl (E.2 0, 1160, .inl (upd (upd (upd (upd (upd (upd sv 75 (nI c0)) (76 + 4 * c0) (sv 4)) ((76 + 4 * c0) + 1) (m_std (sv 0) - m_std (sv 1))) ((76 + 4 * c0) + 2) (sv 7)) ((76 + 4 * c0) + 3) (sv 8)) 75 (nI (c0 + 1)))))]] : List va_W).flatten := zf_subD hD [0, 1] (by decide) rfl
          exact W.iret (v := nI (m_mkN c0 + 1)) hx hb hr (z_end hP hD hS (by rw [m_mkA, m_mkN, m_mkT, if_neg hc10, if_neg hc10])) hS.2.2 dX10_marked_159 hlocks
        · refine lv_aload_n hx hb dX10_marked_20 rfl (lv_at hl 0 rfl) ?_
          refine va_get (D := E.1) (ci := 9) (v := .ref k1) (C := RX10) (T := TX10) (N := 11) hx hb hts hi_X10 hown hK.1 hP 0 rfl rfl 1 (by decide) (hts (.fieldLink RX10 7 "AltimeterWatchModel" "s" "[I") (by decide +kernel)) (fun _ h9 => h9) rfl dX10_marked_21 ?_
          refine lv_bipush (v := 76) hx hb dX10_marked_24 (by decide) ?_
          refine lv_iload_n hx hb dX10_marked_26 rfl (lv_at hl 1 rfl) ?_
          refine lv_iadd hx hb dX10_marked_27 ?_
          refine lv_aload_n hx hb dX10_marked_28 rfl (lv_at hl 0 rfl) ?_
          refine va_get (D := E.1) (ci := 9) (v := .ref k1) (C := RX10) (T := TX10) (N := 11) hx hb hts hi_X10 hown hK.1 hP 0 rfl rfl 1 (by decide) (hts (.fieldLink RX10 7 "AltimeterWatchModel" "s" "[I") (by decide +kernel)) (fun _ h9 => h9) rfl dX10_marked_29 ?_
          refine lv_bipush (v := 76) hx hb dX10_marked_32 (by decide) ?_
          refine lv_iload_n hx hb dX10_marked_34 rfl (lv_at hl 1 rfl) ?_
          refine lv_iadd hx hb dX10_marked_35 ?_
          refine lv_iconst (v := 4) hx hb dX10_marked_36 (by decide) ?_
          refine lv_iadd hx hb dX10_marked_37 ?_
          refine z_iald (k := ((76 + i) + 4)) hx hb hK.1 hP 1 rfl (z_addI (z_addI rfl h3) rfl) (by omega) (by decide) dX10_marked_38 ?_
          refine z_iast (k := (76 + i)) hx hb hK.1 hP hD hS 1 rfl (z_addI rfl h3) (by omega) (by decide) dX10_marked_39 (fun H locs hP hD hS => ?_)
          have hP : va_P E.1 vwCl ([[(h0, .inr (9, [.int th, .ref k1, .int sd, .ref k2, .ref k3, .int ln, .int at0, .int pt, .int mi, .int nu, .long ha]))], [(k1, .inl (E.2 0, 1160, .inl (upd (m_s4 sv i) (76 + i) ((m_s4 sv i) ((76 + i) + 4)))))]] : List va_W).flatten H := hP
          have hD : va_D A ([[(h0, .inr (9, [.int th, .ref k1, .int sd, .ref k2, .ref k3, .int ln, .int at0, .int pt, .int mi, .int nu, .long ha]))], [(k1, .inl (E.2 0, 1160, .inl (upd (m_s4 sv i) (76 + i) ((m_s4 sv i) ((76 + i) + 4)))))]] : List va_W).flatten := hD
          have hP : va_P E.1 vwCl ([[(h0, .inr (9, [.int th, .ref k1, .int sd, .ref k2, .ref k3, .int ln, .int at0, .int pt, .int mi, .int nu, .long ha]))], [(k1, .inl (E.2 0, 1160, .inl (m_s4 sv (i + 1))))]] : List va_W).flatten H := hP
          have hD : va_D A ([[(h0, .inr (9, [.int th, .ref k1, .int sd, .ref k2, .ref k3, .int ln, .int at0, .int pt, .int mi, .int nu, .long ha]))], [(k1, .inl (E.2 0, 1160, .inl (m_s4 sv (i + 1))))]] : List va_W).flatten := hD
          obtain ⟨x_1, ex_1⟩ : ∃ y : Int32, y = x + 1 := ⟨_, rfl⟩
          refine lv_iinc (v := x_1) (lv' := [(1, .int x_1), (0, .ref h0)]) hx hb dX10_marked_40 hl (k := 1) rfl (by rw [ex_1]; rfl) (by decide) rfl (fun ls hl => ?_)
          refine lv_goto (tgt := 2) hx hb dX10_marked_43 (by decide) ?_
          exact ih (i + 1) x_1 (by omega) (by have := nI_nlen (a := 36) (b := i) (by decide) (by omega) (by rw [← h3]; exact c_5); omega) (by rw [ex_1, h3]; exact nI_1 i) (Or.inr c_17) _ _ (zf_sub hP [0, 1] rfl) (zf_subD hD [0, 1] (by decide) rfl) hS ls (lv_sub hl [1, 0] rfl)
  refine lv_iconst (v := 0) hx hb dX10_marked_0 (by decide) ?_
  refine lv_istore_n (lv' := [(1, .int 0), (0, .ref h0)]) hx hb dX10_marked_1 rfl hl (by decide) rfl (fun ls hl => ?_)
  exact LOOP_2 37 0 0 (by decide) (by decide) rfl (Or.inl rfl) _ _ (zf_sub hP [0, 1] rfl) (zf_subD hD [0, 1] (by decide) rfl) hS ls (lv_sub hl [1, 0] rfl)

set_option maxHeartbeats 4000000 in
set_option maxRecDepth 100000 in
theorem c_X10_copies (l : Launch) (E : zE) (h0 k1 k2 k3 : Nat) (th sd ln at0 pt mi nu : Int32) (ha : Int64) (x1 x2 : Int32) (a c : Nat) (e1 : x1 = nI a) (e2 : x2 = nI c) (ha9 : a ≤ 9) (hc9 : c ≤ 9) (sv : Nat → Int32) : zM l yX10_copies wsX10_copies ({ frames := 0, cells := 0, slots := 0, locals := 0 }) E [.ref h0, .int x1, .int x2] ([[(h0, .inr (9, [.int th, .ref k1, .int sd, .ref k2, .ref k3, .int ln, .int at0, .int pt, .int mi, .int nu, .long ha]))], [(k1, .inl (E.2 0, 1160, .inl sv))]] : List va_W).flatten none ([[(h0, .inr (9, [.int th, .ref k1, .int sd, .ref k2, .ref k3, .int ln, .int at0, .int pt, .int mi, .int nu, .long ha]))], [(k1, .inl (E.2 0, 1160, .inl (m_cpA sv a c 116)))]] : List va_W).flatten 0 0 := by
  subst e1; subst e2
  refine z_start (cc := cX10_copies) (maxL := 4) (ret := none) (by decide) rfl (Nat.le_of_ble_eq_true rfl) ?_
  intro Pg En s Mi below meth Cd A hx hb hr hts hown hlocks hin hml hA H hH hP hK hD hS ls hl
  have hl : lv_has ls 4 [(0, .ref h0), (1, .int (nI a)), (2, .int (nI c))] := hl
  have hi_X10 : ∀ w ∈ wsX100, w ∈ wsX10_copies := by decide +kernel
  have LOOP_2 : ∀ (kz : Nat) (i : Nat) (x : Int32), 116 < i + kz → i ≤ 116 → x = nI i →  ∀ (H : Heap) (locs : List Loc), va_P E.1 vwCl ([[(h0, .inr (9, [.int th, .ref k1, .int sd, .ref k2, .ref k3, .int ln, .int at0, .int pt, .int mi, .int nu, .long ha]))], [(k1, .inl (E.2 0, 1160, .inl (m_cpA sv a c i)))]] : List va_W).flatten H → va_D A ([[(h0, .inr (9, [.int th, .ref k1, .int sd, .ref k2, .ref k3, .int ln, .int at0, .int pt, .int mi, .int nu, .long ha]))], [(k1, .inl (E.2 0, 1160, .inl (m_cpA sv a c i)))]] : List va_W).flatten → va_S A s.heap H locs → ∀ (ls : Array Slot), lv_has ls 4 [(0, .ref h0), (1, .int (nI a)), (2, .int (nI c)), (3, .int x)] → W Pg l En ({ frames := 0, cells := 0, slots := 0, locals := 0 } : Room) s Mi ([.ref h0, .int (nI a), .int (nI c)] : List Value).toArray below meth Cd H locs 0 0 (MQ below (zQ none (zB E ([[(h0, .inr (9, [.int th, .ref k1, .int sd, .ref k2, .ref k3, .int ln, .int at0, .int pt, .int mi, .int nu, .long ha]))], [(k1, .inl (E.2 0, 1160, .inl (m_cpA sv a c 116)))]] : List va_W).flatten A) A) ([.ref h0, .int (nI a), .int (nI c)] : List Value).toArray s 0 0 A) (F0 Mi 2 ls []) := by
    intro kz
    induction kz with
    | zero => intro i x h1 h2 h3; exact absurd h1 (by omega)
    | succ kz ih =>
      intro i x h1 h2 h3 H locs hP hD hS ls hl
      refine lv_iload_n hx hb dX10_copies_2 rfl (lv_at hl 3 rfl) ?_
      refine lv_bipush (v := 116) hx hb dX10_copies_3 (by decide) ?_
      refine lv_icmp_ge (tgt := 36) hx hb dX10_copies_5 (by decide) (fun c_5 => ?_) (fun c_5 => ?_)
      · have hP : va_P E.1 vwCl ([[(h0, .inr (9, [.int th, .ref k1, .int sd, .ref k2, .ref k3, .int ln, .int at0, .int pt, .int mi, .int nu, .long ha]))], [(k1, .inl (E.2 0, 1160, .inl (m_cpA sv a c i)))]] : List va_W).flatten H := zf_sub hP [0, 1] rfl
        have hD : va_D A ([[(h0, .inr (9, [.int th, .ref k1, .int sd, .ref k2, .ref k3, .int ln, .int at0, .int pt, .int mi, .int nu, .long ha]))], [(k1, .inl (E.2 0, 1160, .inl (m_cpA sv a c i)))]] : List va_W).flatten := zf_subD hD [0, 1] (by decide) rfl
        exact W.vret hx hb hr (z_end hP hD hS (by have e9 : i = 116 := (by have := nI_len (a := 116) (b := i) (by decide) (by omega) (by rw [← h3]; exact c_5); omega); rw [e9])) hS.2.2 dX10_copies_36 hlocks
      · have hlt : i < 116 := nI_nlen (a := 116) (b := i) (by decide) (by omega) (by rw [← h3]; exact c_5)
        refine lv_aload_n hx hb dX10_copies_8 rfl (lv_at hl 0 rfl) ?_
        refine va_get (D := E.1) (ci := 9) (v := .ref k1) (C := RX10) (T := TX10) (N := 11) hx hb hts hi_X10 hown hK.1 hP 0 rfl rfl 1 (by decide) (hts (.fieldLink RX10 7 "AltimeterWatchModel" "s" "[I") (by decide +kernel)) (fun _ h9 => h9) rfl dX10_copies_9 ?_
        refine lv_bipush (v := 116) hx hb dX10_copies_12 (by decide) ?_
        refine lv_iload_n hx hb dX10_copies_14 rfl (lv_at hl 2 rfl) ?_
        refine lv_imul hx hb dX10_copies_15 ?_
        refine lv_iload_n hx hb dX10_copies_16 rfl (lv_at hl 3 rfl) ?_
        refine lv_iadd hx hb dX10_copies_17 ?_
        refine lv_aload_n hx hb dX10_copies_18 rfl (lv_at hl 0 rfl) ?_
        refine va_get (D := E.1) (ci := 9) (v := .ref k1) (C := RX10) (T := TX10) (N := 11) hx hb hts hi_X10 hown hK.1 hP 0 rfl rfl 1 (by decide) (hts (.fieldLink RX10 7 "AltimeterWatchModel" "s" "[I") (by decide +kernel)) (fun _ h9 => h9) rfl dX10_copies_19 ?_
        refine lv_bipush (v := 116) hx hb dX10_copies_22 (by decide) ?_
        refine lv_iload_n hx hb dX10_copies_24 rfl (lv_at hl 1 rfl) ?_
        refine lv_imul hx hb dX10_copies_25 ?_
        refine lv_iload_n hx hb dX10_copies_26 rfl (lv_at hl 3 rfl) ?_
        refine lv_iadd hx hb dX10_copies_27 ?_
        refine z_iald (k := ((116 * a) + i)) hx hb hK.1 hP 1 rfl (z_addI (z_mulI rfl rfl) h3) (by omega) (by decide) dX10_copies_28 ?_
        refine z_iast (k := ((116 * c) + i)) hx hb hK.1 hP hD hS 1 rfl (z_addI (z_mulI rfl rfl) h3) (by omega) (by decide) dX10_copies_29 (fun H locs hP hD hS => ?_)
        have hP : va_P E.1 vwCl ([[(h0, .inr (9, [.int th, .ref k1, .int sd, .ref k2, .ref k3, .int ln, .int at0, .int pt, .int mi, .int nu, .long ha]))], [(k1, .inl (E.2 0, 1160, .inl (upd (m_cpA sv a c i) ((116 * c) + i) ((m_cpA sv a c i) ((116 * a) + i)))))]] : List va_W).flatten H := hP
        have hD : va_D A ([[(h0, .inr (9, [.int th, .ref k1, .int sd, .ref k2, .ref k3, .int ln, .int at0, .int pt, .int mi, .int nu, .long ha]))], [(k1, .inl (E.2 0, 1160, .inl (upd (m_cpA sv a c i) ((116 * c) + i) ((m_cpA sv a c i) ((116 * a) + i)))))]] : List va_W).flatten := hD
        have hP : va_P E.1 vwCl ([[(h0, .inr (9, [.int th, .ref k1, .int sd, .ref k2, .ref k3, .int ln, .int at0, .int pt, .int mi, .int nu, .long ha]))], [(k1, .inl (E.2 0, 1160, .inl (m_cpA sv a c (i + 1))))]] : List va_W).flatten H := hP
        have hD : va_D A ([[(h0, .inr (9, [.int th, .ref k1, .int sd, .ref k2, .ref k3, .int ln, .int at0, .int pt, .int mi, .int nu, .long ha]))], [(k1, .inl (E.2 0, 1160, .inl (m_cpA sv a c (i + 1))))]] : List va_W).flatten := hD
        obtain ⟨x_1, ex_1⟩ : ∃ y : Int32, y = x + 1 := ⟨_, rfl⟩
        refine lv_iinc (v := x_1) (lv' := [(3, .int x_1), (0, .ref h0), (1, .int (nI a)), (2, .int (nI c))]) hx hb dX10_copies_30 hl (k := 3) rfl (by rw [ex_1]; rfl) (by decide) rfl (fun ls hl => ?_)
        refine lv_goto (tgt := 2) hx hb dX10_copies_33 (by decide) ?_
        exact ih (i + 1) x_1 (by omega) (by omega) (by rw [ex_1, h3]; exact nI_1 i) _ _ (zf_sub hP [0, 1] rfl) (zf_subD hD [0, 1] (by decide) rfl) hS ls (lv_sub hl [1, 2, 3, 0] rfl)
  refine lv_iconst (v := 0) hx hb dX10_copies_0 (by decide) ?_
  refine lv_istore_n (lv' := [(3, .int 0), (0, .ref h0), (1, .int (nI a)), (2, .int (nI c))]) hx hb dX10_copies_1 rfl hl (by decide) rfl (fun ls hl => ?_)
  exact LOOP_2 117 0 0 (by decide) (by decide) rfl _ _ (zf_sub hP [0, 1] rfl) (zf_subD hD [0, 1] (by decide) rfl) hS ls (lv_sub hl [1, 2, 3, 0] rfl)

theorem nI_nle6 {d : Nat} (h : d < 6) : ¬ (6 : Int32) ≤ nI d := nI_ge (a := d) (b := 6) h (by decide)

set_option maxHeartbeats 4000000 in
set_option maxRecDepth 100000 in
theorem c_X10_save (l : Launch) (E : zE) (h0 k1 k2 k3 : Nat) (th sd ln at0 pt mi nu : Int32) (ha : Int64) (sv : Nat → Int32) (d : Nat) (hsd : sd = nI d) (hd : d ≤ 6) : zM l yX10_save wsX10_save ({ frames := 1, cells := 0, slots := 0, locals := 23 }) E [.ref h0] ([[(h0, .inr (9, [.int th, .ref k1, .int sd, .ref k2, .ref k3, .int ln, .int at0, .int pt, .int mi, .int nu, .long ha]))], [(k1, .inl (E.2 0, 1160, .inl sv))]] : List va_W).flatten none ([[(h0, .inr (9, [.int th, .ref k1, .int (nI (m_svC d)), .ref k2, .ref k3, .int ln, .int at0, .int pt, .int mi, .int nu, .long ha]))], [(k1, .inl (E.2 0, 1160, .inl (m_svA sv d)))]] : List va_W).flatten 0 0 := by
  refine z_start (cc := cX10_save) (maxL := 2) (ret := none) (by decide) rfl (Nat.le_of_ble_eq_true rfl) ?_
  intro Pg En s Mi below meth Cd A hx hb hr hts hown hlocks hin hml hA H hH hP hK hD hS ls hl
  have hl : lv_has ls 2 [(0, .ref h0)] := hl
  have hi_X10 : ∀ w ∈ wsX100, w ∈ wsX10_save := by decide +kernel
  have LOOP_2 : ∀ (kz : Nat) (i : Nat) (x : Int32), 6 < i + kz → i ≤ 6 → 1 ≤ i → x = nI i → i = 1 ∨ sd = 6 →  ∀ (H : Heap) (locs : List Loc), va_P E.1 vwCl ([[(h0, .inr (9, [.int th, .ref k1, .int sd, .ref k2, .ref k3, .int ln, .int at0, .int pt, .int mi, .int nu, .long ha]))], [(k1, .inl (E.2 0, 1160, .inl (m_svS sv (i - 1))))]] : List va_W).flatten H → va_D A ([[(h0, .inr (9, [.int th, .ref k1, .int sd, .ref k2, .ref k3, .int ln, .int at0, .int pt, .int mi, .int nu, .long ha]))], [(k1, .inl (E.2 0, 1160, .inl (m_svS sv (i - 1))))]] : List va_W).flatten → va_S A s.heap H locs → ∀ (ls : Array Slot), lv_has ls 2 [(0, .ref h0), (1, .int x)] → W Pg l En ({ frames := 1, cells := 0, slots := 0, locals := 23 } : Room) s Mi ([.ref h0] : List Value).toArray below meth Cd H locs 0 0 (MQ below (zQ none (zB E ([[(h0, .inr (9, [.int th, .ref k1, .int (nI (m_svC d)), .ref k2, .ref k3, .int ln, .int at0, .int pt, .int mi, .int nu, .long ha]))], [(k1, .inl (E.2 0, 1160, .inl (m_svA sv d)))]] : List va_W).flatten A) A) ([.ref h0] : List Value).toArray s 0 0 A) (F0 Mi 2 ls []) := by
    intro kz
    induction kz with
    | zero => intro i x h1 h2 h4 h3 h7; exact absurd h1 (by omega)
    | succ kz ih =>
      intro i x h1 h2 h4 h3 h7 H locs hP hD hS ls hl
      refine lv_iload_n hx hb dX10_save_2 rfl (lv_at hl 1 rfl) ?_
      refine lv_bipush (v := 6) hx hb dX10_save_3 (by decide) ?_
      refine lv_icmp_ge (tgt := 31) hx hb dX10_save_5 (by decide) (fun c_5 => ?_) (fun c_5 => ?_)
      · have e6 : i = 6 := by have := nI_len (a := 6) (b := i) (by decide) (by omega) (by rw [← h3]; exact c_5); omega
        have h6 : sd = 6 := h7.resolve_left (by omega)
        have hd6 : d = 6 := by { have e9 := m_n_nI (n := d) (by omega); rw [← hsd, h6] at e9; exact e9.symm.trans (by decide) }
        rw [show i - 1 = 5 by omega] at hP hD
        refine lv_aload_n hx hb dX10_save_31 rfl (lv_at hl 0 rfl) ?_
        refine lv_dup hx hb dX10_save_32 rfl ?_
        refine va_get (D := E.1) (ci := 9) (v := .int sd) (C := RX10) (T := TX10) (N := 11) hx hb hts hi_X10 hown hK.1 hP 0 rfl rfl 2 (by decide) (hts (.fieldLink RX10 58 "AltimeterWatchModel" "saved" "I") (by decide +kernel)) (fun _ h9 => h9) rfl dX10_save_33 ?_
        refine lv_aload_n hx hb dX10_save_36 rfl (lv_at hl 0 rfl) ?_
        refine va_get (D := E.1) (ci := 9) (v := .int sd) (C := RX10) (T := TX10) (N := 11) hx hb hts hi_X10 hown hK.1 hP 0 rfl rfl 2 (by decide) (hts (.fieldLink RX10 58 "AltimeterWatchModel" "saved" "I") (by decide +kernel)) (fun _ h9 => h9) rfl dX10_save_37 ?_
        refine lv_bipush (v := 6) hx hb dX10_save_40 (by decide) ?_
        refine lv_icmp_ge (tgt := 49) hx hb dX10_save_42 (by decide) (fun _ => ?_) (fun h9 => absurd ((by rw [h6]; decide)) h9)
        refine lv_iconst (v := 0) hx hb dX10_save_49 (by decide) ?_
        refine lv_iadd hx hb dX10_save_50 ?_
        refine z_topi (y := (nI 6)) (by rw [h6]; rfl) ?_
        refine va_put (D := E.1) (ci := 9) (v := .int (nI 6)) (ty := .int) (C := RX10) (T := TX10) (N := 11) hx hb hts hi_X10 tyX10 tyX10_ok nmX10 hown hK.1 hP hD hS 0 rfl rfl 2 (by decide) (hts (.fieldLink RX10 58 "AltimeterWatchModel" "saved" "I") (by decide +kernel)) (fun _ h9 => h9) rfl (by decide +kernel) rfl rfl (Nat.le_of_ble_eq_true rfl) dX10_save_51 (fun H locs hP hD hS => ?_)
        have hP : va_P E.1 vwCl ([[(h0, .inr (9, [.int th, .ref k1, .int (nI 6), .ref k2, .ref k3, .int ln, .int at0, .int pt, .int mi, .int nu, .long ha]))], [(k1, .inl (E.2 0, 1160, .inl (m_svS sv 5)))]] : List va_W).flatten H := hP
        have hD : va_D A ([[(h0, .inr (9, [.int th, .ref k1, .int (nI 6), .ref k2, .ref k3, .int ln, .int at0, .int pt, .int mi, .int nu, .long ha]))], [(k1, .inl (E.2 0, 1160, .inl (m_svS sv 5)))]] : List va_W).flatten := hD
        refine lv_aload_n hx hb dX10_save_54 rfl (lv_at hl 0 rfl) ?_
        refine lv_iconst (v := 0) hx hb dX10_save_55 (by decide) ?_
        refine lv_aload_n hx hb dX10_save_56 rfl (lv_at hl 0 rfl) ?_
        refine va_get (D := E.1) (ci := 9) (v := .int (nI 6)) (C := RX10) (T := TX10) (N := 11) hx hb hts hi_X10 hown hK.1 hP 0 rfl rfl 2 (by decide) (hts (.fieldLink RX10 58 "AltimeterWatchModel" "saved" "I") (by decide +kernel)) (fun _ h9 => h9) rfl dX10_save_57 ?_
        have hPc : va_P E.1 vwCl ([[(h0, .inr (9, [.int th, .ref k1, .int (nI 6), .ref k2, .ref k3, .int ln, .int at0, .int pt, .int mi, .int nu, .long ha]))], [(k1, .inl (E.2 0, 1160, .inl (m_svS sv 5)))]] : List va_W).flatten H := zf_sub hP [0, 1] rfl
        have hDc : va_D A ([[(h0, .inr (9, [.int th, .ref k1, .int (nI 6), .ref k2, .ref k3, .int ln, .int at0, .int pt, .int mi, .int nu, .long ha]))], [(k1, .inl (E.2 0, 1160, .inl (m_svS sv 5)))]] : List va_W).flatten := zf_subD hD [0, 1] (by decide) rfl
        refine z_mut (Sc := [[(h0, .inr (9, [.int th, .ref k1, .int (nI 6), .ref k2, .ref k3, .int ln, .int at0, .int pt, .int mi, .int nu, .long ha]))], [(k1, .inl (E.2 0, 1160, .inl (m_svS sv 5)))]]) (Sr := []) (W1 := [[(h0, .inr (9, [.int th, .ref k1, .int (nI 6), .ref k2, .ref k3, .int ln, .int at0, .int pt, .int mi, .int nu, .long ha]))], [(k1, .inl (E.2 0, 1160, .inl (m_cpA (m_svS sv 5) 0 6 116)))]]) (va_runV (As := [.int 0, .int (nI 6)]) (rest := []) ⟨hx, hb, hml, hown, hts⟩ (c_X10_copies l E h0 k1 k2 k3 th (nI 6) ln at0 pt mi nu ha 0 (nI 6) 0 6 rfl rfl (by omega) (by omega) (m_svS sv 5) H.size) (cwV 2 hts gX10_save_X10_copies rfl rfl rfl (by decide +kernel) ⟨Nat.le_of_ble_eq_true rfl, Nat.le_of_ble_eq_true rfl⟩) ⟨zP.blind, va_recv hK.1 hPc (ci := 9) (q0 := 0) rfl rfl, z_pre hK hPc hDc⟩ rfl rfl hl.1 rfl (lv_room (Nat.le_of_ble_eq_true rfl)) dX10_save_60 ⟨Nat.le_of_ble_eq_true rfl, Nat.le_of_ble_eq_true rfl⟩) hP hD hS hA [0, 1] [] rfl rfl (by decide) (by decide) (fun H locs hP hD hS => ?_)
        have hP : va_P E.1 vwCl ([[(h0, .inr (9, [.int th, .ref k1, .int (nI 6), .ref k2, .ref k3, .int ln, .int at0, .int pt, .int mi, .int nu, .long ha]))], [(k1, .inl (E.2 0, 1160, .inl (m_cpA (m_svS sv 5) 0 6 116)))]] : List va_W).flatten H := hP
        have hD : va_D A ([[(h0, .inr (9, [.int th, .ref k1, .int (nI 6), .ref k2, .ref k3, .int ln, .int at0, .int pt, .int mi, .int nu, .long ha]))], [(k1, .inl (E.2 0, 1160, .inl (m_cpA (m_svS sv 5) 0 6 116)))]] : List va_W).flatten := hD
        refine W.eq (g2 := F0 Mi 63 ls []) rfl ?_
        have hP : va_P E.1 vwCl ([[(h0, .inr (9, [.int th, .ref k1, .int (nI 6), .ref k2, .ref k3, .int ln, .int at0, .int pt, .int mi, .int nu, .long ha]))], [(k1, .inl (E.2 0, 1160, .inl (m_cpA (m_svS sv 5) 0 6 116)))]] : List va_W).flatten H := zf_sub hP [0, 1] rfl
        have hD : va_D A ([[(h0, .inr (9, [.int th, .ref k1, .int (nI 6), .ref k2, .ref k3, .int ln, .int at0, .int pt, .int mi, .int nu, .long ha]))], [(k1, .inl (E.2 0, 1160, .inl (m_cpA (m_svS sv 5) 0 6 116)))]] : List va_W).flatten := zf_subD hD [0, 1] (by decide) rfl
        exact W.vret hx hb hr (z_end hP hD hS (by rw [m_svA, m_svC, if_pos hd6, if_pos hd6])) hS.2.2 dX10_save_63 hlocks
      · refine lv_aload_n hx hb dX10_save_8 rfl (lv_at hl 0 rfl) ?_
        refine va_get (D := E.1) (ci := 9) (v := .int sd) (C := RX10) (T := TX10) (N := 11) hx hb hts hi_X10 hown hK.1 hP 0 rfl rfl 2 (by decide) (hts (.fieldLink RX10 58 "AltimeterWatchModel" "saved" "I") (by decide +kernel)) (fun _ h9 => h9) rfl dX10_save_9 ?_
        refine lv_bipush (v := 6) hx hb dX10_save_12 (by decide) ?_
        refine lv_icmp_ne (tgt := 31) hx hb dX10_save_14 (by decide) (fun c_14 => ?_) (fun c_14 => ?_)
        · have hd6 : ¬ d = 6 := fun h9 => c_14 (by rw [hsd, h9]; rfl)
          rw [show i - 1 = 0 by (have := h7.resolve_right c_14; omega)] at hP hD
          have hP : va_P E.1 vwCl ([[(h0, .inr (9, [.int th, .ref k1, .int sd, .ref k2, .ref k3, .int ln, .int at0, .int pt, .int mi, .int nu, .long ha]))], [(k1, .inl (E.2 0, 1160, .inl sv))]] : List va_W).flatten H := hP
          have hD : va_D A ([[(h0, .inr (9, [.int th, .ref k1, .int sd, .ref k2, .ref k3, .int ln, .int at0, .int pt, .int mi, .int nu, .long ha]))], [(k1, .inl (E.2 0, 1160, .inl sv))]] : List va_W).flatten := hD
          refine lv_aload_n hx hb dX10_save_31 rfl (lv_at hl 0 rfl) ?_
          refine lv_dup hx hb dX10_save_32 rfl ?_
          refine va_get (D := E.1) (ci := 9) (v := .int sd) (C := RX10) (T := TX10) (N := 11) hx hb hts hi_X10 hown hK.1 hP 0 rfl rfl 2 (by decide) (hts (.fieldLink RX10 58 "AltimeterWatchModel" "saved" "I") (by decide +kernel)) (fun _ h9 => h9) rfl dX10_save_33 ?_
          refine lv_aload_n hx hb dX10_save_36 rfl (lv_at hl 0 rfl) ?_
          refine va_get (D := E.1) (ci := 9) (v := .int sd) (C := RX10) (T := TX10) (N := 11) hx hb hts hi_X10 hown hK.1 hP 0 rfl rfl 2 (by decide) (hts (.fieldLink RX10 58 "AltimeterWatchModel" "saved" "I") (by decide +kernel)) (fun _ h9 => h9) rfl dX10_save_37 ?_
          refine lv_bipush (v := 6) hx hb dX10_save_40 (by decide) ?_
          refine lv_icmp_ge (tgt := 49) hx hb dX10_save_42 (by decide) (fun h9 => absurd h9 ((by rw [hsd]; exact nI_nle6 (by omega)))) (fun _ => ?_)
          refine lv_iconst (v := 1) hx hb dX10_save_45 (by decide) ?_
          refine lv_goto (tgt := 50) hx hb dX10_save_46 (by decide) ?_
          refine lv_iadd hx hb dX10_save_50 ?_
          refine z_topi (y := (nI (d + 1))) (by rw [hsd]; exact nI_1 d) ?_
          refine va_put (D := E.1) (ci := 9) (v := .int (nI (d + 1))) (ty := .int) (C := RX10) (T := TX10) (N := 11) hx hb hts hi_X10 tyX10 tyX10_ok nmX10 hown hK.1 hP hD hS 0 rfl rfl 2 (by decide) (hts (.fieldLink RX10 58 "AltimeterWatchModel" "saved" "I") (by decide +kernel)) (fun _ h9 => h9) rfl (by decide +kernel) rfl rfl (Nat.le_of_ble_eq_true rfl) dX10_save_51 (fun H locs hP hD hS => ?_)
          have hP : va_P E.1 vwCl ([[(h0, .inr (9, [.int th, .ref k1, .int (nI (d + 1)), .ref k2, .ref k3, .int ln, .int at0, .int pt, .int mi, .int nu, .long ha]))], [(k1, .inl (E.2 0, 1160, .inl sv))]] : List va_W).flatten H := hP
          have hD : va_D A ([[(h0, .inr (9, [.int th, .ref k1, .int (nI (d + 1)), .ref k2, .ref k3, .int ln, .int at0, .int pt, .int mi, .int nu, .long ha]))], [(k1, .inl (E.2 0, 1160, .inl sv))]] : List va_W).flatten := hD
          refine lv_aload_n hx hb dX10_save_54 rfl (lv_at hl 0 rfl) ?_
          refine lv_iconst (v := 0) hx hb dX10_save_55 (by decide) ?_
          refine lv_aload_n hx hb dX10_save_56 rfl (lv_at hl 0 rfl) ?_
          refine va_get (D := E.1) (ci := 9) (v := .int (nI (d + 1))) (C := RX10) (T := TX10) (N := 11) hx hb hts hi_X10 hown hK.1 hP 0 rfl rfl 2 (by decide) (hts (.fieldLink RX10 58 "AltimeterWatchModel" "saved" "I") (by decide +kernel)) (fun _ h9 => h9) rfl dX10_save_57 ?_
          have hPc : va_P E.1 vwCl ([[(h0, .inr (9, [.int th, .ref k1, .int (nI (d + 1)), .ref k2, .ref k3, .int ln, .int at0, .int pt, .int mi, .int nu, .long ha]))], [(k1, .inl (E.2 0, 1160, .inl sv))]] : List va_W).flatten H := zf_sub hP [0, 1] rfl
          have hDc : va_D A ([[(h0, .inr (9, [.int th, .ref k1, .int (nI (d + 1)), .ref k2, .ref k3, .int ln, .int at0, .int pt, .int mi, .int nu, .long ha]))], [(k1, .inl (E.2 0, 1160, .inl sv))]] : List va_W).flatten := zf_subD hD [0, 1] (by decide) rfl
          refine z_mut (Sc := [[(h0, .inr (9, [.int th, .ref k1, .int (nI (d + 1)), .ref k2, .ref k3, .int ln, .int at0, .int pt, .int mi, .int nu, .long ha]))], [(k1, .inl (E.2 0, 1160, .inl sv))]]) (Sr := []) (W1 := [[(h0, .inr (9, [.int th, .ref k1, .int (nI (d + 1)), .ref k2, .ref k3, .int ln, .int at0, .int pt, .int mi, .int nu, .long ha]))], [(k1, .inl (E.2 0, 1160, .inl (m_cpA sv 0 (d + 1) 116)))]]) (va_runV (As := [.int 0, .int (nI (d + 1))]) (rest := []) ⟨hx, hb, hml, hown, hts⟩ (c_X10_copies l E h0 k1 k2 k3 th (nI (d + 1)) ln at0 pt mi nu ha 0 (nI (d + 1)) 0 (d + 1) rfl rfl (by omega) (by omega) sv H.size) (cwV 2 hts gX10_save_X10_copies rfl rfl rfl (by decide +kernel) ⟨Nat.le_of_ble_eq_true rfl, Nat.le_of_ble_eq_true rfl⟩) ⟨zP.blind, va_recv hK.1 hPc (ci := 9) (q0 := 0) rfl rfl, z_pre hK hPc hDc⟩ rfl rfl hl.1 rfl (lv_room (Nat.le_of_ble_eq_true rfl)) dX10_save_60 ⟨Nat.le_of_ble_eq_true rfl, Nat.le_of_ble_eq_true rfl⟩) hP hD hS hA [0, 1] [] rfl rfl (by decide) (by decide) (fun H locs hP hD hS => ?_)
          have hP : va_P E.1 vwCl ([[(h0, .inr (9, [.int th, .ref k1, .int (nI (d + 1)), .ref k2, .ref k3, .int ln, .int at0, .int pt, .int mi, .int nu, .long ha]))], [(k1, .inl (E.2 0, 1160, .inl (m_cpA sv 0 (d + 1) 116)))]] : List va_W).flatten H := hP
          have hD : va_D A ([[(h0, .inr (9, [.int th, .ref k1, .int (nI (d + 1)), .ref k2, .ref k3, .int ln, .int at0, .int pt, .int mi, .int nu, .long ha]))], [(k1, .inl (E.2 0, 1160, .inl (m_cpA sv 0 (d + 1) 116)))]] : List va_W).flatten := hD
          refine W.eq (g2 := F0 Mi 63 ls []) rfl ?_
          have hP : va_P E.1 vwCl ([[(h0, .inr (9, [.int th, .ref k1, .int (nI (d + 1)), .ref k2, .ref k3, .int ln, .int at0, .int pt, .int mi, .int nu, .long ha]))], [(k1, .inl (E.2 0, 1160, .inl (m_cpA sv 0 (d + 1) 116)))]] : List va_W).flatten H := zf_sub hP [0, 1] rfl
          have hD : va_D A ([[(h0, .inr (9, [.int th, .ref k1, .int (nI (d + 1)), .ref k2, .ref k3, .int ln, .int at0, .int pt, .int mi, .int nu, .long ha]))], [(k1, .inl (E.2 0, 1160, .inl (m_cpA sv 0 (d + 1) 116)))]] : List va_W).flatten := zf_subD hD [0, 1] (by decide) rfl
          exact W.vret hx hb hr (z_end hP hD hS (by rw [m_svA, m_svC, if_neg hd6, if_neg hd6])) hS.2.2 dX10_save_63 hlocks
        · have hlt : i < 6 := nI_nlen (a := 6) (b := i) (by decide) (by omega) (by rw [← h3]; exact c_5)
          refine lv_aload_n hx hb dX10_save_17 rfl (lv_at hl 0 rfl) ?_
          refine lv_iload_n hx hb dX10_save_18 rfl (lv_at hl 1 rfl) ?_
          refine lv_iconst (v := 1) hx hb dX10_save_19 (by decide) ?_
          refine lv_iadd hx hb dX10_save_20 ?_
          refine lv_iload_n hx hb dX10_save_21 rfl (lv_at hl 1 rfl) ?_
          have hPc : va_P E.1 vwCl ([[(h0, .inr (9, [.int th, .ref k1, .int sd, .ref k2, .ref k3, .int ln, .int at0, .int pt, .int mi, .int nu, .long ha]))], [(k1, .inl (E.2 0, 1160, .inl (m_svS sv (i - 1))))]] : List va_W).flatten H := zf_sub hP [0, 1] rfl
          have hDc : va_D A ([[(h0, .inr (9, [.int th, .ref k1, .int sd, .ref k2, .ref k3, .int ln, .int at0, .int pt, .int mi, .int nu, .long ha]))], [(k1, .inl (E.2 0, 1160, .inl (m_svS sv (i - 1))))]] : List va_W).flatten := zf_subD hD [0, 1] (by decide) rfl
          refine z_mut (Sc := [[(h0, .inr (9, [.int th, .ref k1, .int sd, .ref k2, .ref k3, .int ln, .int at0, .int pt, .int mi, .int nu, .long ha]))], [(k1, .inl (E.2 0, 1160, .inl (m_svS sv (i - 1))))]]) (Sr := []) (W1 := [[(h0, .inr (9, [.int th, .ref k1, .int sd, .ref k2, .ref k3, .int ln, .int at0, .int pt, .int mi, .int nu, .long ha]))], [(k1, .inl (E.2 0, 1160, .inl (m_cpA (m_svS sv (i - 1)) (i + 1) i 116)))]]) (va_runV (As := [.int (x + 1), .int x]) (rest := []) ⟨hx, hb, hml, hown, hts⟩ (c_X10_copies l E h0 k1 k2 k3 th sd ln at0 pt mi nu ha (x + 1) x (i + 1) i (by rw [h3]; exact nI_1 i) h3 (by omega) (by omega) (m_svS sv (i - 1)) H.size) (cwV 2 hts gX10_save_X10_copies rfl rfl rfl (by decide +kernel) ⟨Nat.le_of_ble_eq_true rfl, Nat.le_of_ble_eq_true rfl⟩) ⟨zP.blind, va_recv hK.1 hPc (ci := 9) (q0 := 0) rfl rfl, z_pre hK hPc hDc⟩ rfl rfl hl.1 rfl (lv_room (Nat.le_of_ble_eq_true rfl)) dX10_save_22 ⟨Nat.le_of_ble_eq_true rfl, Nat.le_of_ble_eq_true rfl⟩) hP hD hS hA [0, 1] [] rfl rfl (by decide) (by decide) (fun H locs hP hD hS => ?_)
          have hP : va_P E.1 vwCl ([[(h0, .inr (9, [.int th, .ref k1, .int sd, .ref k2, .ref k3, .int ln, .int at0, .int pt, .int mi, .int nu, .long ha]))], [(k1, .inl (E.2 0, 1160, .inl (m_cpA (m_svS sv (i - 1)) (i + 1) i 116)))]] : List va_W).flatten H := hP
          have hD : va_D A ([[(h0, .inr (9, [.int th, .ref k1, .int sd, .ref k2, .ref k3, .int ln, .int at0, .int pt, .int mi, .int nu, .long ha]))], [(k1, .inl (E.2 0, 1160, .inl (m_cpA (m_svS sv (i - 1)) (i + 1) i 116)))]] : List va_W).flatten := hD
          refine W.eq (g2 := F0 Mi 25 ls []) rfl ?_
          rw [← m_svS_pos h4] at hP hD
          obtain ⟨x_1, ex_1⟩ : ∃ y : Int32, y = x + 1 := ⟨_, rfl⟩
          refine lv_iinc (v := x_1) (lv' := [(1, .int x_1), (0, .ref h0)]) hx hb dX10_save_25 hl (k := 1) rfl (by rw [ex_1]; rfl) (by decide) rfl (fun ls hl => ?_)
          refine lv_goto (tgt := 2) hx hb dX10_save_28 (by decide) ?_
          exact ih (i + 1) x_1 (by omega) (by omega) (by omega) (by rw [ex_1, h3]; exact nI_1 i) (Or.inr c_14) _ _ (zf_sub hP [0, 1] rfl) (zf_subD hD [0, 1] (by decide) rfl) hS ls (lv_sub hl [1, 0] rfl)
  refine lv_iconst (v := 1) hx hb dX10_save_0 (by decide) ?_
  refine lv_istore_n (lv' := [(1, .int 1), (0, .ref h0)]) hx hb dX10_save_1 rfl hl (by decide) rfl (fun ls hl => ?_)
  exact LOOP_2 6 1 1 (by decide) (by decide) (by decide) rfl (Or.inl rfl) _ _ (zf_sub hP [0, 1] rfl) (zf_subD hD [0, 1] (by decide) rfl) hS ls (lv_sub hl [1, 0] rfl)
