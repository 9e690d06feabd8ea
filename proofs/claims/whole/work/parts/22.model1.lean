/-! the reference: one row of 1160 numbers -/
def m_in (v lo hi : Int32) : Int32 := if lo ≤ v then (if v ≤ hi then 1 else 0) else 0
theorem m_in01 (v lo hi : Int32) : m_in v lo hi = 0 ∨ m_in v lo hi = 1 := by
  unfold m_in
  repeat' split
  all_goals first | exact Or.inr rfl | exact Or.inl rfl
def m_z01 (x : Int32) : Int32 := if x = 0 then 1 else 0
theorem m_z0101 (x : Int32) : m_z01 x = 0 ∨ m_z01 x = 1 := by
  unfold m_z01
  split
  · exact Or.inr rfl
  · exact Or.inl rfl
def m_bl (ar a : Int32) : Nat → Int32 × Int32
  | 0 => (9000, m_abs (ar - m_std 9000 - a))
  | k + 1 => (if m_abs (ar - m_std (nI (9001 + k)) - a) < (m_bl ar a k).2 then nI (9001 + k) else (m_bl ar a k).1, if m_abs (ar - m_std (nI (9001 + k)) - a) < (m_bl ar a k).2 then m_abs (ar - m_std (nI (9001 + k)) - a) else (m_bl ar a k).2)
theorem m_bl_1 (ar a : Int32) (k : Nat) : (m_bl ar a (k + 1)).1 = if m_abs (ar - m_std (nI (9001 + k)) - a) < (m_bl ar a k).2 then nI (9001 + k) else (m_bl ar a k).1 := rfl
theorem m_bl_2 (ar a : Int32) (k : Nat) : (m_bl ar a (k + 1)).2 = if m_abs (ar - m_std (nI (9001 + k)) - a) < (m_bl ar a k).2 then m_abs (ar - m_std (nI (9001 + k)) - a) else (m_bl ar a k).2 := rfl
def m_bst (p a : Int32) : Int32 := (m_bl (m_std p) a 1800).1
def m_clB (sv : Nat → Int32) (b : Nat) (y : Int32) : Nat → Int32 :=
  if sv (b + 10) ≤ m_abs y then upd (upd (upd sv (b + 7) (sv (b + 7) + (if 0 < y then y else 0))) (b + 8) (sv (b + 8) + (if y < 0 then -y else 0))) (b + 9) (sv (b + 9) + y) else sv
def m_clA (sv : Nat → Int32) (b : Nat) : Nat → Int32 := m_clB sv b (m_std (sv (b + 0)) - m_std (sv (b + 1)) - sv (b + 9))
def m_fmM (sv : Nat → Int32) (b : Nat) : Nat → Int32
  | 0 => 0
  | k + 1 => if m_fmM sv b k < sv (b + 15 + k) then sv (b + 15 + k) else m_fmM sv b k
def m_fallM (sv : Nat → Int32) (b m : Nat) : Int32 := if m = 0 then 0 else m_fmM sv b m - sv (b + 15 + m - 1)
def m_alM (sv : Nat → Int32) (b m : Nat) : Int32 := if sv (b + 11) ≤ m_fallM sv b m then 1 else 0
theorem m_alM01 (sv : Nat → Int32) (b m : Nat) : m_alM sv b m = 0 ∨ m_alM sv b m = 1 := by
  unfold m_alM
  split
  · exact Or.inr rfl
  · exact Or.inl rfl

set_option maxHeartbeats 4000000 in
set_option maxRecDepth 100000 in
theorem c_X10_in (l : Launch) (E : zE) (p0 p1 p2 : Int32) : zR l yX10_in wsX10_in ({ frames := 0, cells := 0, slots := 0, locals := 0 }) E [.int p0, .int p1, .int p2] [] (some (.int (m_in p0 p1 p2))) := by
  refine z_startr (cc := cX10_in) (maxL := 3) (ret := (some .boolean)) (by decide) rfl (Nat.le_of_ble_eq_true rfl) ?_
  intro Pg En s Mi below meth Cd hx hb hr hts hown hlocks hml hP hK ls hl
  have hl : lv_has ls 3 [(0, .int p0), (1, .int p1), (2, .int p2)] := hl
  refine lv_iload_n hx hb dX10_in_0 rfl (lv_at hl 0 rfl) ?_
  refine lv_iload_n hx hb dX10_in_1 rfl (lv_at hl 1 rfl) ?_
  refine lv_icmp_lt (tgt := 14) hx hb dX10_in_2 (by decide) (fun c_2 => ?_) (fun c_2 => ?_)
  · refine lv_iconst (v := 0) hx hb dX10_in_14 (by decide) ?_
    refine z_topi (y := m_in p0 p1 p2) (by rw [m_in, if_neg (Int32.not_le.mpr c_2)]) ?_
    exact W.zret (v := m_in p0 p1 p2) hx hb hr (z_bool (m_in01 _ _ _)) z_endR (fun _ h => by cases h) dX10_in_15 hlocks
  · refine lv_iload_n hx hb dX10_in_5 rfl (lv_at hl 0 rfl) ?_
    refine lv_iload_n hx hb dX10_in_6 rfl (lv_at hl 2 rfl) ?_
    refine lv_icmp_gt (tgt := 14) hx hb dX10_in_7 (by decide) (fun c_7 => ?_) (fun c_7 => ?_)
    · refine lv_iconst (v := 0) hx hb dX10_in_14 (by decide) ?_
      refine z_topi (y := m_in p0 p1 p2) (by rw [m_in, if_pos (Int32.not_lt.mp c_2), if_neg (Int32.not_le.mpr c_7)]) ?_
      exact W.zret (v := m_in p0 p1 p2) hx hb hr (z_bool (m_in01 _ _ _)) z_endR (fun _ h => by cases h) dX10_in_15 hlocks
    · refine lv_iconst (v := 1) hx hb dX10_in_10 (by decide) ?_
      refine lv_goto (tgt := 15) hx hb dX10_in_11 (by decide) ?_
      refine z_topi (y := m_in p0 p1 p2) (by rw [m_in, if_pos (Int32.not_lt.mp c_2), if_pos (Int32.not_lt.mp c_7)]) ?_
      exact W.zret (v := m_in p0 p1 p2) hx hb hr (z_bool (m_in01 _ _ _)) z_endR (fun _ h => by cases h) dX10_in_15 hlocks

set_option maxHeartbeats 4000000 in
set_option maxRecDepth 100000 in
theorem c_X10_size (l : Launch) (E : zE) (p0 : Int32) : zR l yX10_size wsX10_size ({ frames := 0, cells := 0, slots := 0, locals := 0 }) E [.int p0] [] (some (.int (m_abs p0))) := by
  refine z_startr (cc := cX10_size) (maxL := 1) (ret := (some .int)) (by decide) rfl (Nat.le_of_ble_eq_true rfl) ?_
  intro Pg En s Mi below meth Cd hx hb hr hts hown hlocks hml hP hK ls hl
  have hl : lv_has ls 1 [(0, .int p0)] := hl
  refine lv_iload_n hx hb dX10_size_0 rfl (lv_at hl 0 rfl) ?_
  refine lv_if_ge (tgt := 9) hx hb dX10_size_1 (by decide) (fun c_1 => ?_) (fun c_1 => ?_)
  · refine lv_iload_n hx hb dX10_size_9 rfl (lv_at hl 0 rfl) ?_
    refine z_topi (y := m_abs p0) (by rw [m_abs, if_neg (Int32.not_lt.mpr c_1)]) ?_
    exact W.iret (v := m_abs p0) hx hb hr z_endR (fun _ h => by cases h) dX10_size_10 hlocks
  · refine lv_iload_n hx hb dX10_size_4 rfl (lv_at hl 0 rfl) ?_
    refine lv_ineg hx hb dX10_size_5 ?_
    refine lv_goto (tgt := 10) hx hb dX10_size_6 (by decide) ?_
    refine z_topi (y := m_abs p0) (by rw [m_abs, if_pos (Int32.not_le.mp c_1)]) ?_
    exact W.iret (v := m_abs p0) hx hb hr z_endR (fun _ h => by cases h) dX10_size_10 hlocks

set_option maxHeartbeats 4000000 in
set_option maxRecDepth 100000 in
theorem c_X10_standardOf (l : Launch) (E : zE) (p0 : Int32) : zR l yX10_standardOf wsX10_standardOf ({ frames := 0, cells := 0, slots := 0, locals := 0 }) E [.int p0] [] (some (.int (m_std p0))) := by
  refine z_startr (cc := cX10_standardOf) (maxL := 2) (ret := (some .int)) (by decide) rfl (Nat.le_of_ble_eq_true rfl) ?_
  intro Pg En s Mi below meth Cd hx hb hr hts hown hlocks hml hP hK ls hl
  have hl : lv_has ls 2 [(0, .int p0)] := hl
  refine lv_sipush (v := 10132) hx hb dX10_standardOf_0 (by decide) ?_
  refine lv_iload_n hx hb dX10_standardOf_3 rfl (lv_at hl 0 rfl) ?_
  refine lv_isub hx hb dX10_standardOf_4 ?_
  refine lv_topi (fun f_1 ef_1 => ?_)
  refine lv_istore_n (lv' := [(1, .int f_1), (0, .int p0)]) hx hb dX10_standardOf_5 rfl hl (by decide) rfl (fun ls hl => ?_)
  refine lv_iload_n hx hb dX10_standardOf_6 rfl (lv_at hl 0 rfl) ?_
  refine lv_if_lt (tgt := 26) hx hb dX10_standardOf_7 (by decide) (fun c_7 => ?_) (fun c_7 => ?_)
  · refine lv_iload_n hx hb dX10_standardOf_26 rfl (lv_at hl 0 rfl) ?_
    refine lv_bipush (v := 83) hx hb dX10_standardOf_27 (by decide) ?_
    refine lv_imul hx hb dX10_standardOf_29 ?_
    refine lv_bipush (v := 10) hx hb dX10_standardOf_30 (by decide) ?_
    refine lv_idiv hx hb dX10_standardOf_32 (by decide) ?_
    refine z_topi (y := m_std p0) (by subst ef_1; rw [m_std, if_pos c_7]) ?_
    exact W.iret (v := m_std p0) hx hb hr z_endR (fun _ h => by cases h) dX10_standardOf_33 hlocks
  · refine lv_iload_n hx hb dX10_standardOf_10 rfl (lv_at hl 0 rfl) ?_
    refine lv_bipush (v := 83) hx hb dX10_standardOf_11 (by decide) ?_
    refine lv_iload_n hx hb dX10_standardOf_13 rfl (lv_at hl 0 rfl) ?_
    refine lv_sipush (v := 250) hx hb dX10_standardOf_14 (by decide) ?_
    refine lv_idiv hx hb dX10_standardOf_17 (by decide) ?_
    refine lv_iadd hx hb dX10_standardOf_18 ?_
    refine lv_imul hx hb dX10_standardOf_19 ?_
    refine lv_bipush (v := 10) hx hb dX10_standardOf_20 (by decide) ?_
    refine lv_idiv hx hb dX10_standardOf_22 (by decide) ?_
    refine lv_goto (tgt := 33) hx hb dX10_standardOf_23 (by decide) ?_
    refine z_topi (y := m_std p0) (by subst ef_1; rw [m_std, if_neg c_7]) ?_
    exact W.iret (v := m_std p0) hx hb hr z_endR (fun _ h => by cases h) dX10_standardOf_33 hlocks

set_option maxHeartbeats 4000000 in
set_option maxRecDepth 100000 in
theorem c_X10_holds (l : Launch) (E : zE) (h0 k1 k2 k3 : Nat) (th sd ln at0 pt mi nu : Int32) (ha : Int64) (x : Int32) : zM l yX10_holds wsX10_holds ({ frames := 0, cells := 0, slots := 0, locals := 0 }) E [.ref h0, .int x] ([[(h0, .inr (9, [.int th, .ref k1, .int sd, .ref k2, .ref k3, .int ln, .int at0, .int pt, .int mi, .int nu, .long ha]))]] : List va_W).flatten (some (.int (m_z01 x))) ([[(h0, .inr (9, [.int x, .ref k1, .int sd, .ref k2, .ref k3, .int ln, .int at0, .int pt, .int mi, .int nu, .long ha]))]] : List va_W).flatten 0 0 := by
  refine z_start (cc := cX10_holds) (maxL := 2) (ret := (some .boolean)) (by decide) rfl (Nat.le_of_ble_eq_true rfl) ?_
  intro Pg En s Mi below meth Cd A hx hb hr hts hown hlocks hin hml hA H hH hP hK hD hS ls hl
  have hl : lv_has ls 2 [(0, .ref h0), (1, .int x)] := hl
  have hi_X10 : ∀ w ∈ wsX100, w ∈ wsX10_holds := by decide +kernel
  refine lv_aload_n hx hb dX10_holds_0 rfl (lv_at hl 0 rfl) ?_
  refine lv_iload_n hx hb dX10_holds_1 rfl (lv_at hl 1 rfl) ?_
  refine va_put (D := E.1) (ci := 9) (v := .int x) (ty := .int) (C := RX10) (T := TX10) (N := 11) hx hb hts hi_X10 tyX10 tyX10_ok nmX10 hown hK.1 hP hD hS 0 rfl rfl 0 (by decide) (hts (.fieldLink RX10 20 "AltimeterWatchModel" "thrown" "I") (by decide +kernel)) (fun _ h9 => h9) rfl (by decide +kernel) rfl rfl (Nat.le_of_ble_eq_true rfl) dX10_holds_2 (fun H locs hP hD hS => ?_)
  have hP : va_P E.1 vwCl ([[(h0, .inr (9, [.int x, .ref k1, .int sd, .ref k2, .ref k3, .int ln, .int at0, .int pt, .int mi, .int nu, .long ha]))]] : List va_W).flatten H := hP
  have hD : va_D A ([[(h0, .inr (9, [.int x, .ref k1, .int sd, .ref k2, .ref k3, .int ln, .int at0, .int pt, .int mi, .int nu, .long ha]))]] : List va_W).flatten := hD
  refine lv_iload_n hx hb dX10_holds_5 rfl (lv_at hl 1 rfl) ?_
  refine lv_if_ne (tgt := 13) hx hb dX10_holds_6 (by decide) (fun c_6 => ?_) (fun c_6 => ?_)
  · refine lv_iconst (v := 0) hx hb dX10_holds_13 (by decide) ?_
    refine z_topi (y := m_z01 x) (by rw [m_z01, if_neg c_6]) ?_
    have hP : va_P E.1 vwCl ([[(h0, .inr (9, [.int x, .ref k1, .int sd, .ref k2, .ref k3, .int ln, .int at0, .int pt, .int mi, .int nu, .long ha]))]] : List va_W).flatten H := zf_sub hP [0] rfl
    have hD : va_D A ([[(h0, .inr (9, [.int x, .ref k1, .int sd, .ref k2, .ref k3, .int ln, .int at0, .int pt, .int mi, .int nu, .long ha]))]] : List va_W).flatten := zf_subD hD [0] (by decide) rfl
    exact W.zret (v := m_z01 x) hx hb hr (z_bool (m_z0101 _)) (z_end hP hD hS rfl) hS.2.2 dX10_holds_14 hlocks
  · refine lv_iconst (v := 1) hx hb dX10_holds_9 (by decide) ?_
    refine lv_goto (tgt := 14) hx hb dX10_holds_10 (by decide) ?_
    refine z_topi (y := m_z01 x) (by rw [m_z01, if_pos c_6]) ?_
    have hP : va_P E.1 vwCl ([[(h0, .inr (9, [.int x, .ref k1, .int sd, .ref k2, .ref k3, .int ln, .int at0, .int pt, .int mi, .int nu, .long ha]))]] : List va_W).flatten H := zf_sub hP [0] rfl
    have hD : va_D A ([[(h0, .inr (9, [.int x, .ref k1, .int sd, .ref k2, .ref k3, .int ln, .int at0, .int pt, .int mi, .int nu, .long ha]))]] : List va_W).flatten := zf_subD hD [0] (by decide) rfl
    exact W.zret (v := m_z01 x) hx hb hr (z_bool (m_z0101 _)) (z_end hP hD hS rfl) hS.2.2 dX10_holds_14 hlocks

set_option maxHeartbeats 4000000 in
set_option maxRecDepth 100000 in
theorem c_X10_altitudeAt (l : Launch) (E : zE) (h0 k1 k2 k3 : Nat) (th sd ln at0 pt mi nu : Int32) (ha : Int64) (x1 : Int32) (b : Nat) (e1 : x1 = nI b) (hb0 : b ≤ 1044) (sv : Nat → Int32) : zR l yX10_altitudeAt wsX10_altitudeAt ({ frames := 1, cells := 0, slots := 0, locals := 21 }) E [.ref h0, .int x1] ([[(h0, .inr (9, [.int th, .ref k1, .int sd, .ref k2, .ref k3, .int ln, .int at0, .int pt, .int mi, .int nu, .long ha]))], [(k1, .inl (E.2 0, 1160, .inl sv))]] : List va_W).flatten (some (.int (m_std (sv (b + 0)) - m_std (sv (b + 1))))) := by
  subst e1
  refine z_startr (cc := cX10_altitudeAt) (maxL := 2) (ret := (some .int)) (by decide) rfl (Nat.le_of_ble_eq_true rfl) ?_
  intro Pg En s Mi below meth Cd hx hb hr hts hown hlocks hml hP hK ls hl
  have hl : lv_has ls 2 [(0, .ref h0), (1, .int (nI b))] := hl
  have hi_X10 : ∀ w ∈ wsX100, w ∈ wsX10_altitudeAt := by decide +kernel
  refine lv_aload_n hx hb dX10_altitudeAt_0 rfl (lv_at hl 0 rfl) ?_
  refine va_get (D := E.1) (ci := 9) (v := .ref k1) (C := RX10) (T := TX10) (N := 11) hx hb hts hi_X10 hown hK.1 hP 0 rfl rfl 1 (by decide) (hts (.fieldLink RX10 7 "AltimeterWatchModel" "s" "[I") (by decide +kernel)) (fun _ h9 => h9) rfl dX10_altitudeAt_1 ?_
  refine lv_iload_n hx hb dX10_altitudeAt_4 rfl (lv_at hl 1 rfl) ?_
  refine lv_iconst (v := 0) hx hb dX10_altitudeAt_5 (by decide) ?_
  refine lv_iadd hx hb dX10_altitudeAt_6 ?_
  refine z_iald (k := (b + 0)) hx hb hK.1 hP 1 rfl (z_addI rfl rfl) (by omega) (by decide) dX10_altitudeAt_7 ?_
  refine z_rdv (va_runS (As := [.int (sv (b + 0))]) (rest := []) ⟨hx, hb, hml, hown, hts⟩ (c_X10_standardOf l E (sv (b + 0))) (va_cwS 1 hts gX10_altitudeAt_X10_standardOf rfl rfl rfl (by decide +kernel) ⟨Nat.le_of_ble_eq_true rfl, Nat.le_of_ble_eq_true rfl⟩) ⟨zPr.blind, z_prer hK zP_nil⟩ rfl rfl hl.1 rfl (lv_room (Nat.le_of_ble_eq_true rfl)) dX10_altitudeAt_8 ⟨Nat.le_of_ble_eq_true rfl, Nat.le_of_ble_eq_true rfl⟩) ?_
  refine W.eq (g2 := F0 Mi 11 ls [.int (m_std (sv (b + 0)))]) rfl ?_
  refine lv_aload_n hx hb dX10_altitudeAt_11 rfl (lv_at hl 0 rfl) ?_
  refine va_get (D := E.1) (ci := 9) (v := .ref k1) (C := RX10) (T := TX10) (N := 11) hx hb hts hi_X10 hown hK.1 hP 0 rfl rfl 1 (by decide) (hts (.fieldLink RX10 7 "AltimeterWatchModel" "s" "[I") (by decide +kernel)) (fun _ h9 => h9) rfl dX10_altitudeAt_12 ?_
  refine lv_iload_n hx hb dX10_altitudeAt_15 rfl (lv_at hl 1 rfl) ?_
  refine lv_iconst (v := 1) hx hb dX10_altitudeAt_16 (by decide) ?_
  refine lv_iadd hx hb dX10_altitudeAt_17 ?_
  refine z_iald (k := (b + 1)) hx hb hK.1 hP 1 rfl (z_addI rfl rfl) (by omega) (by decide) dX10_altitudeAt_18 ?_
  refine z_rdv (va_runS (As := [.int (sv (b + 1))]) (rest := [.int (m_std (sv (b + 0)))]) ⟨hx, hb, hml, hown, hts⟩ (c_X10_standardOf l E (sv (b + 1))) (va_cwS 1 hts gX10_altitudeAt_X10_standardOf rfl rfl rfl (by decide +kernel) ⟨Nat.le_of_ble_eq_true rfl, Nat.le_of_ble_eq_true rfl⟩) ⟨zPr.blind, z_prer hK zP_nil⟩ rfl rfl hl.1 rfl (lv_room (Nat.le_of_ble_eq_true rfl)) dX10_altitudeAt_19 ⟨Nat.le_of_ble_eq_true rfl, Nat.le_of_ble_eq_true rfl⟩) ?_
  refine W.eq (g2 := F0 Mi 22 ls [.int (m_std (sv (b + 1))), .int (m_std (sv (b + 0)))]) rfl ?_
  refine lv_isub hx hb dX10_altitudeAt_22 ?_
  exact W.iret (v := ((m_std (sv (b + 0))) - (m_std (sv (b + 1))))) hx hb hr z_endR (fun _ h => by cases h) dX10_altitudeAt_23 hlocks

set_option maxHeartbeats 4000000 in
set_option maxRecDepth 100000 in
theorem c_X10_adjusts (l : Launch) (E : zE) (h0 k1 k2 k3 : Nat) (th sd ln at0 pt mi nu : Int32) (ha : Int64) (x1 : Int32) (b : Nat) (e1 : x1 = nI b) (hb0 : b ≤ 1044) (sv : Nat → Int32) (a : Int32) : zM l yX10_adjusts wsX10_adjusts ({ frames := 1, cells := 0, slots := 0, locals := 21 }) E [.ref h0, .int x1, .int a] ([[(h0, .inr (9, [.int th, .ref k1, .int sd, .ref k2, .ref k3, .int ln, .int at0, .int pt, .int mi, .int nu, .long ha]))], [(k1, .inl (E.2 0, 1160, .inl sv))]] : List va_W).flatten none ([[(h0, .inr (9, [.int th, .ref k1, .int sd, .ref k2, .ref k3, .int ln, .int at0, .int pt, .int mi, .int nu, .long ha]))], [(k1, .inl (E.2 0, 1160, .inl (upd sv (b + 1) (m_bst (sv (b + 0)) a))))]] : List va_W).flatten 0 0 := by
  subst e1
  refine z_start (cc := cX10_adjusts) (maxL := 8) (ret := none) (by decide) rfl (Nat.le_of_ble_eq_true rfl) ?_
  intro Pg En s Mi below meth Cd A hx hb hr hts hown hlocks hin hml hA H hH hP hK hD hS ls hl
  have hl : lv_has ls 8 [(0, .ref h0), (1, .int (nI b)), (2, .int a)] := hl
  have hi_X10 : ∀ w ∈ wsX100, w ∈ wsX10_adjusts := by decide +kernel
  have LOOP_37 : ∀ (kz : Nat) (i : Nat) (x ar bs le : Int32), 1800 < i + kz → i ≤ 1800 → x = nI (9001 + i) → ar = m_std (sv (b + 0)) → bs = (m_bl ar a i).1 → le = (m_bl ar a i).2 →  ∀ (H : Heap) (locs : List Loc), va_P E.1 vwCl ([[(h0, .inr (9, [.int th, .ref k1, .int sd, .ref k2, .ref k3, .int ln, .int at0, .int pt, .int mi, .int nu, .long ha]))], [(k1, .inl (E.2 0, 1160, .inl sv))]] : List va_W).flatten H → va_D A ([[(h0, .inr (9, [.int th, .ref k1, .int sd, .ref k2, .ref k3, .int ln, .int at0, .int pt, .int mi, .int nu, .long ha]))], [(k1, .inl (E.2 0, 1160, .inl sv))]] : List va_W).flatten → va_S A s.heap H locs → ∀ (ls : Array Slot), lv_has ls 8 [(0, .ref h0), (1, .int (nI b)), (2, .int a), (3, .int ar), (4, .int bs), (5, .int le), (6, .int x)] → W Pg l En ({ frames := 1, cells := 0, slots := 0, locals := 21 } : Room) s Mi ([.ref h0, .int (nI b), .int a] : List Value).toArray below meth Cd H locs 0 0 (MQ below (zQ none (zB E ([[(h0, .inr (9, [.int th, .ref k1, .int sd, .ref k2, .ref k3, .int ln, .int at0, .int pt, .int mi, .int nu, .long ha]))], [(k1, .inl (E.2 0, 1160, .inl (upd sv (b + 1) (m_bst (sv (b + 0)) a))))]] : List va_W).flatten A) A) ([.ref h0, .int (nI b), .int a] : List Value).toArray s 0 0 A) (F0 Mi 37 ls []) := by
    intro kz
    induction kz with
    | zero => intro i x ar bs le h1 h2 h3 har h5 h6; exact absurd h1 (by omega)
    | succ kz ih =>
      intro i x ar bs le h1 h2 h3 har h5 h6 H locs hP hD hS ls hl
      refine lv_iload hx hb dX10_adjusts_37 (lv_at hl 6 rfl) ?_
      refine lv_sipush (v := 10800) hx hb dX10_adjusts_39 (by decide) ?_
      refine lv_icmp_gt (tgt := 97) hx hb dX10_adjusts_42 (by decide) (fun c_42 => ?_) (fun c_42 => ?_)
      · refine lv_aload_n hx hb dX10_adjusts_97 rfl (lv_at hl 0 rfl) ?_
        refine va_get (D := E.1) (ci := 9) (v := .ref k1) (C := RX10) (T := TX10) (N := 11) hx hb hts hi_X10 hown hK.1 hP 0 rfl rfl 1 (by decide) (hts (.fieldLink RX10 7 "AltimeterWatchModel" "s" "[I") (by decide +kernel)) (fun _ h9 => h9) rfl dX10_adjusts_98 ?_
        refine lv_iload_n hx hb dX10_adjusts_101 rfl (lv_at hl 1 rfl) ?_
        refine lv_iconst (v := 1) hx hb dX10_adjusts_102 (by decide) ?_
        refine lv_iadd hx hb dX10_adjusts_103 ?_
        refine lv_iload hx hb dX10_adjusts_104 (lv_at hl 4 rfl) ?_
        refine z_iast (k := (b + 1)) hx hb hK.1 hP hD hS 1 rfl (z_addI rfl rfl) (by omega) (by decide) dX10_adjusts_106 (fun H locs hP hD hS => ?_)
        have hP : va_P E.1 vwCl ([[(h0, .inr (9, [.int th, .ref k1, .int sd, .ref k2, .ref k3, .int ln, .int at0, .int pt, .int mi, .int nu, .long ha]))], [(k1, .inl (E.2 0, 1160, .inl (upd sv (b + 1) bs)))]] : List va_W).flatten H := hP
        have hD : va_D A ([[(h0, .inr (9, [.int th, .ref k1, .int sd, .ref k2, .ref k3, .int ln, .int at0, .int pt, .int mi, .int nu, .long ha]))], [(k1, .inl (E.2 0, 1160, .inl (upd sv (b + 1) bs)))]] : List va_W).flatten := hD
        have hP : va_P E.1 vwCl ([[(h0, .inr (9, [.int th, .ref k1, .int sd, .ref k2, .ref k3, .int ln, .int at0, .int pt, .int mi, .int nu, .long ha]))], [(k1, .inl (E.2 0, 1160, .inl (upd sv (b + 1) bs)))]] : List va_W).flatten H := zf_sub hP [0, 1] rfl
        have hD : va_D A ([[(h0, .inr (9, [.int th, .ref k1, .int sd, .ref k2, .ref k3, .int ln, .int at0, .int pt, .int mi, .int nu, .long ha]))], [(k1, .inl (E.2 0, 1160, .inl (upd sv (b + 1) bs)))]] : List va_W).flatten := zf_subD hD [0, 1] (by decide) rfl
        exact W.vret hx hb hr (z_end hP hD hS (by have e2 : i = 1800 := (by have := nI_ltn (a := 10800) (b := 9001 + i) (by decide) (by omega) (by rw [← h3]; exact c_42); omega); rw [h5, e2, har]; rfl)) hS.2.2 dX10_adjusts_107 hlocks
      · refine lv_iload_n hx hb dX10_adjusts_45 rfl (lv_at hl 3 rfl) ?_
        refine lv_iload hx hb dX10_adjusts_46 (lv_at hl 6 rfl) ?_
        refine z_rdv (va_runS (As := [.int x]) (rest := [.int ar]) ⟨hx, hb, hml, hown, hts⟩ (c_X10_standardOf l E x) (va_cwS 1 hts gX10_adjusts_X10_standardOf rfl rfl rfl (by decide +kernel) ⟨Nat.le_of_ble_eq_true rfl, Nat.le_of_ble_eq_true rfl⟩) ⟨zPr.blind, z_prer hK zP_nil⟩ rfl rfl hl.1 rfl (lv_room (Nat.le_of_ble_eq_true rfl)) dX10_adjusts_48 ⟨Nat.le_of_ble_eq_true rfl, Nat.le_of_ble_eq_true rfl⟩) ?_
        refine W.eq (g2 := F0 Mi 51 ls [.int (m_std x), .int ar]) rfl ?_
        refine lv_isub hx hb dX10_adjusts_51 ?_
        refine lv_iload_n hx hb dX10_adjusts_52 rfl (lv_at hl 2 rfl) ?_
        refine lv_isub hx hb dX10_adjusts_53 ?_
        refine z_rdv (va_runS (As := [.int ((ar - (m_std x)) - a)]) (rest := []) ⟨hx, hb, hml, hown, hts⟩ (c_X10_size l E ((ar - (m_std x)) - a)) (va_cwS 1 hts gX10_adjusts_X10_size rfl rfl rfl (by decide +kernel) ⟨Nat.le_of_ble_eq_true rfl, Nat.le_of_ble_eq_true rfl⟩) ⟨zPr.blind, z_prer hK zP_nil⟩ rfl rfl hl.1 rfl (lv_room (Nat.le_of_ble_eq_true rfl)) dX10_adjusts_54 ⟨Nat.le_of_ble_eq_true rfl, Nat.le_of_ble_eq_true rfl⟩) ?_
        refine W.eq (g2 := F0 Mi 57 ls [.int (m_abs ((ar - (m_std x)) - a))]) rfl ?_
        refine lv_topi (fun f_1 ef_1 => ?_)
        refine lv_istore (lv' := [(7, .int f_1), (0, .ref h0), (1, .int (nI b)), (2, .int a), (3, .int ar), (4, .int bs), (5, .int le), (6, .int x)]) hx hb dX10_adjusts_57 hl (by decide) rfl (fun ls hl => ?_)
        refine lv_iload hx hb dX10_adjusts_59 (lv_at hl 0 rfl) ?_
        refine lv_iload hx hb dX10_adjusts_61 (lv_at hl 6 rfl) ?_
        refine lv_icmp_ge (tgt := 71) hx hb dX10_adjusts_63 (by decide) (fun c_63 => ?_) (fun c_63 => ?_)
        · refine lv_iload hx hb dX10_adjusts_71 (lv_at hl 5 rfl) ?_
          refine lv_istore (lv' := [(4, .int bs), (7, .int f_1), (0, .ref h0), (1, .int (nI b)), (2, .int a), (3, .int ar), (5, .int le), (6, .int x)]) hx hb dX10_adjusts_73 hl (by decide) rfl (fun ls hl => ?_)
          refine lv_iload hx hb dX10_adjusts_75 (lv_at hl 1 rfl) ?_
          refine lv_iload hx hb dX10_adjusts_77 (lv_at hl 6 rfl) ?_
          refine lv_icmp_ge (tgt := 87) hx hb dX10_adjusts_79 (by decide) (fun _ => ?_) (fun h9 => absurd (c_63) h9)
          refine lv_iload hx hb dX10_adjusts_87 (lv_at hl 6 rfl) ?_
          refine lv_istore (lv' := [(5, .int le), (4, .int bs), (7, .int f_1), (0, .ref h0), (1, .int (nI b)), (2, .int a), (3, .int ar), (6, .int x)]) hx hb dX10_adjusts_89 hl (by decide) rfl (fun ls hl => ?_)
          obtain ⟨x_2, ex_2⟩ : ∃ y : Int32, y = x + 1 := ⟨_, rfl⟩
          refine lv_iinc (v := x_2) (lv' := [(6, .int x_2), (5, .int le), (4, .int bs), (7, .int f_1), (0, .ref h0), (1, .int (nI b)), (2, .int a), (3, .int ar)]) hx hb dX10_adjusts_91 hl (k := 7) rfl (by rw [ex_2]; rfl) (by decide) rfl (fun ls hl => ?_)
          refine lv_goto (tgt := 37) hx hb dX10_adjusts_94 (by decide) ?_
          exact ih (i + 1) x_2 ar bs le (by omega) (by have := nI_nltn (a := 10800) (b := 9001 + i) (by decide) (by omega) (by rw [← h3]; exact c_42); omega) (by rw [ex_2, h3]; exact nI_1 (9001 + i)) har (by rw [m_bl_1, ← h6, ← h5, ← h3, ← ef_1, if_neg (Int32.not_lt.mpr c_63)]) (by rw [m_bl_2, ← h6, ← h3, ← ef_1, if_neg (Int32.not_lt.mpr c_63)]) _ _ (zf_sub hP [0, 1] rfl) (zf_subD hD [0, 1] (by decide) rfl) hS ls (lv_sub hl [4, 5, 6, 7, 2, 1, 0] rfl)
        · refine lv_iload hx hb dX10_adjusts_66 (lv_at hl 7 rfl) ?_
          refine lv_goto (tgt := 73) hx hb dX10_adjusts_68 (by decide) ?_
          refine lv_istore (lv' := [(4, .int x), (7, .int f_1), (0, .ref h0), (1, .int (nI b)), (2, .int a), (3, .int ar), (5, .int le), (6, .int x)]) hx hb dX10_adjusts_73 hl (by decide) rfl (fun ls hl => ?_)
          refine lv_iload hx hb dX10_adjusts_75 (lv_at hl 1 rfl) ?_
          refine lv_iload hx hb dX10_adjusts_77 (lv_at hl 6 rfl) ?_
          refine lv_icmp_ge (tgt := 87) hx hb dX10_adjusts_79 (by decide) (fun h9 => absurd h9 (c_63)) (fun _ => ?_)
          refine lv_iload hx hb dX10_adjusts_82 (lv_at hl 1 rfl) ?_
          refine lv_goto (tgt := 89) hx hb dX10_adjusts_84 (by decide) ?_
          refine lv_istore (lv' := [(5, .int f_1), (4, .int x), (7, .int f_1), (0, .ref h0), (1, .int (nI b)), (2, .int a), (3, .int ar), (6, .int x)]) hx hb dX10_adjusts_89 hl (by decide) rfl (fun ls hl => ?_)
          obtain ⟨x_3, ex_3⟩ : ∃ y : Int32, y = x + 1 := ⟨_, rfl⟩
          refine lv_iinc (v := x_3) (lv' := [(6, .int x_3), (5, .int f_1), (4, .int x), (7, .int f_1), (0, .ref h0), (1, .int (nI b)), (2, .int a), (3, .int ar)]) hx hb dX10_adjusts_91 hl (k := 7) rfl (by rw [ex_3]; rfl) (by decide) rfl (fun ls hl => ?_)
          refine lv_goto (tgt := 37) hx hb dX10_adjusts_94 (by decide) ?_
          exact ih (i + 1) x_3 ar x f_1 (by omega) (by have := nI_nltn (a := 10800) (b := 9001 + i) (by decide) (by omega) (by rw [← h3]; exact c_42); omega) (by rw [ex_3, h3]; exact nI_1 (9001 + i)) har (by rw [m_bl_1, ← h6, ← h5, ← h3, ← ef_1, if_pos (Int32.not_le.mp c_63)]) (by rw [m_bl_2, ← h6, ← h3, ← ef_1, if_pos (Int32.not_le.mp c_63)]) _ _ (zf_sub hP [0, 1] rfl) (zf_subD hD [0, 1] (by decide) rfl) hS ls (lv_sub hl [4, 5, 6, 7, 2, 1, 0] rfl)
  refine lv_aload_n hx hb dX10_adjusts_0 rfl (lv_at hl 0 rfl) ?_
  refine va_get (D := E.1) (ci := 9) (v := .ref k1) (C := RX10) (T := TX10) (N := 11) hx hb hts hi_X10 hown hK.1 hP 0 rfl rfl 1 (by decide) (hts (.fieldLink RX10 7 "AltimeterWatchModel" "s" "[I") (by decide +kernel)) (fun _ h9 => h9) rfl dX10_adjusts_1 ?_
  refine lv_iload_n hx hb dX10_adjusts_4 rfl (lv_at hl 1 rfl) ?_
  refine lv_iconst (v := 0) hx hb dX10_adjusts_5 (by decide) ?_
  refine lv_iadd hx hb dX10_adjusts_6 ?_
  refine z_iald (k := (b + 0)) hx hb hK.1 hP 1 rfl (z_addI rfl rfl) (by omega) (by decide) dX10_adjusts_7 ?_
  refine z_rdv (va_runS (As := [.int (sv (b + 0))]) (rest := []) ⟨hx, hb, hml, hown, hts⟩ (c_X10_standardOf l E (sv (b + 0))) (va_cwS 1 hts gX10_adjusts_X10_standardOf rfl rfl rfl (by decide +kernel) ⟨Nat.le_of_ble_eq_true rfl, Nat.le_of_ble_eq_true rfl⟩) ⟨zPr.blind, z_prer hK zP_nil⟩ rfl rfl hl.1 rfl (lv_room (Nat.le_of_ble_eq_true rfl)) dX10_adjusts_8 ⟨Nat.le_of_ble_eq_true rfl, Nat.le_of_ble_eq_true rfl⟩) ?_
  refine W.eq (g2 := F0 Mi 11 ls [.int (m_std (sv (b + 0)))]) rfl ?_
  refine lv_topi (fun f_4 ef_4 => ?_)
  refine lv_istore_n (lv' := [(3, .int f_4), (0, .ref h0), (1, .int (nI b)), (2, .int a)]) hx hb dX10_adjusts_11 rfl hl (by decide) rfl (fun ls hl => ?_)
  refine lv_sipush (v := 9000) hx hb dX10_adjusts_12 (by decide) ?_
  refine lv_istore (lv' := [(4, .int 9000), (3, .int f_4), (0, .ref h0), (1, .int (nI b)), (2, .int a)]) hx hb dX10_adjusts_15 hl (by decide) rfl (fun ls hl => ?_)
  refine lv_iload_n hx hb dX10_adjusts_17 rfl (lv_at hl 1 rfl) ?_
  refine lv_sipush (v := 9000) hx hb dX10_adjusts_18 (by decide) ?_
  refine z_rdv (va_runS (As := [.int 9000]) (rest := [.int f_4]) ⟨hx, hb, hml, hown, hts⟩ (c_X10_standardOf l E 9000) (va_cwS 1 hts gX10_adjusts_X10_standardOf rfl rfl rfl (by decide +kernel) ⟨Nat.le_of_ble_eq_true rfl, Nat.le_of_ble_eq_true rfl⟩) ⟨zPr.blind, z_prer hK zP_nil⟩ rfl rfl hl.1 rfl (lv_room (Nat.le_of_ble_eq_true rfl)) dX10_adjusts_21 ⟨Nat.le_of_ble_eq_true rfl, Nat.le_of_ble_eq_true rfl⟩) ?_
  refine W.eq (g2 := F0 Mi 24 ls [.int (m_std 9000), .int f_4]) rfl ?_
  refine lv_isub hx hb dX10_adjusts_24 ?_
  refine lv_iload_n hx hb dX10_adjusts_25 rfl (lv_at hl 4 rfl) ?_
  refine lv_isub hx hb dX10_adjusts_26 ?_
  refine z_rdv (va_runS (As := [.int ((f_4 - (m_std 9000)) - a)]) (rest := []) ⟨hx, hb, hml, hown, hts⟩ (c_X10_size l E ((f_4 - (m_std 9000)) - a)) (va_cwS 1 hts gX10_adjusts_X10_size rfl rfl rfl (by decide +kernel) ⟨Nat.le_of_ble_eq_true rfl, Nat.le_of_ble_eq_true rfl⟩) ⟨zPr.blind, z_prer hK zP_nil⟩ rfl rfl hl.1 rfl (lv_room (Nat.le_of_ble_eq_true rfl)) dX10_adjusts_27 ⟨Nat.le_of_ble_eq_true rfl, Nat.le_of_ble_eq_true rfl⟩) ?_
  refine W.eq (g2 := F0 Mi 30 ls [.int (m_abs ((f_4 - (m_std 9000)) - a))]) rfl ?_
  refine lv_topi (fun f_5 ef_5 => ?_)
  refine lv_istore (lv' := [(5, .int f_5), (4, .int 9000), (3, .int f_4), (0, .ref h0), (1, .int (nI b)), (2, .int a)]) hx hb dX10_adjusts_30 hl (by decide) rfl (fun ls hl => ?_)
  refine lv_sipush (v := 9001) hx hb dX10_adjusts_32 (by decide) ?_
  refine lv_istore (lv' := [(6, .int 9001), (5, .int f_5), (4, .int 9000), (3, .int f_4), (0, .ref h0), (1, .int (nI b)), (2, .int a)]) hx hb dX10_adjusts_35 hl (by decide) rfl (fun ls hl => ?_)
  exact LOOP_37 1801 0 9001 _ 9000 _ (by decide) (by decide) rfl ef_4 rfl ef_5 _ _ (zf_sub hP [0, 1] rfl) (zf_subD hD [0, 1] (by decide) rfl) hS ls (lv_sub hl [4, 5, 6, 3, 2, 1, 0] rfl)

set_option maxHeartbeats 4000000 in
set_option maxRecDepth 100000 in
theorem c_X10_climbs (l : Launch) (E : zE) (h0 k1 k2 k3 : Nat) (th sd ln at0 pt mi nu : Int32) (ha : Int64) (x1 : Int32) (b : Nat) (e1 : x1 = nI b) (hb0 : b ≤ 1044) (sv : Nat → Int32) : zM l yX10_climbs wsX10_climbs ({ frames := 2, cells := 0, slots := 0, locals := 42 }) E [.ref h0, .int x1] ([[(h0, .inr (9, [.int th, .ref k1, .int sd, .ref k2, .ref k3, .int ln, .int at0, .int pt, .int mi, .int nu, .long ha]))], [(k1, .inl (E.2 0, 1160, .inl sv))]] : List va_W).flatten none ([[(h0, .inr (9, [.int th, .ref k1, .int sd, .ref k2, .ref k3, .int ln, .int at0, .int pt, .int mi, .int nu, .long ha]))], [(k1, .inl (E.2 0, 1160, .inl (m_clA sv b)))]] : List va_W).flatten 0 0 := by
  subst e1
  refine z_start (cc := cX10_climbs) (maxL := 3) (ret := none) (by decide) rfl (Nat.le_of_ble_eq_true rfl) ?_
  intro Pg En s Mi below meth Cd A hx hb hr hts hown hlocks hin hml hA H hH hP hK hD hS ls hl
  have hl : lv_has ls 3 [(0, .ref h0), (1, .int (nI b))] := hl
  have hi_X10 : ∀ w ∈ wsX100, w ∈ wsX10_climbs := by decide +kernel
  refine lv_aload_n hx hb dX10_climbs_0 rfl (lv_at hl 0 rfl) ?_
  refine lv_iload_n hx hb dX10_climbs_1 rfl (lv_at hl 1 rfl) ?_
  have hPc : va_P E.1 vwCl ([[(h0, .inr (9, [.int th, .ref k1, .int sd, .ref k2, .ref k3, .int ln, .int at0, .int pt, .int mi, .int nu, .long ha]))], [(k1, .inl (E.2 0, 1160, .inl sv))]] : List va_W).flatten H := zf_sub hP [0, 1] rfl
  refine z_rdv (va_runV (As := [.int (nI b)]) (rest := []) ⟨hx, hb, hml, hown, hts⟩ (c_X10_altitudeAt l E h0 k1 k2 k3 th sd ln at0 pt mi nu ha (nI b) b rfl (by omega) sv) (cwV 1 hts gX10_climbs_X10_altitudeAt rfl rfl rfl (by decide +kernel) ⟨Nat.le_of_ble_eq_true rfl, Nat.le_of_ble_eq_true rfl⟩) ⟨zPr.blind, va_recv hK.1 hPc (ci := 9) (q0 := 0) rfl rfl, z_prer hK hPc⟩ rfl rfl hl.1 rfl (lv_room (Nat.le_of_ble_eq_true rfl)) dX10_climbs_2 ⟨Nat.le_of_ble_eq_true rfl, Nat.le_of_ble_eq_true rfl⟩) ?_
  refine W.eq (g2 := F0 Mi 5 ls [.int (m_std (sv (b + 0)) - m_std (sv (b + 1)))]) rfl ?_
  refine lv_aload_n hx hb dX10_climbs_5 rfl (lv_at hl 0 rfl) ?_
  refine va_get (D := E.1) (ci := 9) (v := .ref k1) (C := RX10) (T := TX10) (N := 11) hx hb hts hi_X10 hown hK.1 hP 0 rfl rfl 1 (by decide) (hts (.fieldLink RX10 7 "AltimeterWatchModel" "s" "[I") (by decide +kernel)) (fun _ h9 => h9) rfl dX10_climbs_6 ?_
  refine lv_iload_n hx hb dX10_climbs_9 rfl (lv_at hl 1 rfl) ?_
  refine lv_bipush (v := 9) hx hb dX10_climbs_10 (by decide) ?_
  refine lv_iadd hx hb dX10_climbs_12 ?_
  refine z_iald (k := (b + 9)) hx hb hK.1 hP 1 rfl (z_addI rfl rfl) (by omega) (by decide) dX10_climbs_13 ?_
  refine lv_isub hx hb dX10_climbs_14 ?_
  refine lv_topi (fun f_1 ef_1 => ?_)
  refine lv_istore_n (lv' := [(2, .int f_1), (0, .ref h0), (1, .int (nI b))]) hx hb dX10_climbs_15 rfl hl (by decide) rfl (fun ls hl => ?_)
  refine lv_iload_n hx hb dX10_climbs_16 rfl (lv_at hl 0 rfl) ?_
  refine z_rdv (va_runS (As := [.int f_1]) (rest := []) ⟨hx, hb, hml, hown, hts⟩ (c_X10_size l E f_1) (va_cwS 1 hts gX10_climbs_X10_size rfl rfl rfl (by decide +kernel) ⟨Nat.le_of_ble_eq_true rfl, Nat.le_of_ble_eq_true rfl⟩) ⟨zPr.blind, z_prer hK zP_nil⟩ rfl rfl hl.1 rfl (lv_room (Nat.le_of_ble_eq_true rfl)) dX10_climbs_17 ⟨Nat.le_of_ble_eq_true rfl, Nat.le_of_ble_eq_true rfl⟩) ?_
  refine W.eq (g2 := F0 Mi 20 ls [.int (m_abs f_1)]) rfl ?_
  refine lv_aload_n hx hb dX10_climbs_20 rfl (lv_at hl 1 rfl) ?_
  refine va_get (D := E.1) (ci := 9) (v := .ref k1) (C := RX10) (T := TX10) (N := 11) hx hb hts hi_X10 hown hK.1 hP 0 rfl rfl 1 (by decide) (hts (.fieldLink RX10 7 "AltimeterWatchModel" "s" "[I") (by decide +kernel)) (fun _ h9 => h9) rfl dX10_climbs_21 ?_
  refine lv_iload_n hx hb dX10_climbs_24 rfl (lv_at hl 2 rfl) ?_
  refine lv_bipush (v := 10) hx hb dX10_climbs_25 (by decide) ?_
  refine lv_iadd hx hb dX10_climbs_27 ?_
  refine z_iald (k := (b + 10)) hx hb hK.1 hP 1 rfl (z_addI rfl rfl) (by omega) (by decide) dX10_climbs_28 ?_
  refine lv_icmp_lt (tgt := 88) hx hb dX10_climbs_29 (by decide) (fun c_29 => ?_) (fun c_29 => ?_)
  · have hP : va_P E.1 vwCl ([[(h0, .inr (9, [.int th, .ref k1, .int sd, .ref k2, .ref k3, .int ln, .int at0, .int pt, .int mi, .int nu, .long ha]))], [(k1, .inl (E.2 0, 1160, .inl sv))]] : List va_W).flatten H := zf_sub hP [0, 1] rfl
    have hD : va_D A ([[(h0, .inr (9, [.int th, .ref k1, .int sd, .ref k2, .ref k3, .int ln, .int at0, .int pt, .int mi, .int nu, .long ha]))], [(k1, .inl (E.2 0, 1160, .inl sv))]] : List va_W).flatten := zf_subD hD [0, 1] (by decide) rfl
    exact W.vret hx hb hr (z_end hP hD hS (by rw [m_clA, ← ef_1, m_clB, if_neg (Int32.not_le.mpr c_29)])) hS.2.2 dX10_climbs_88 hlocks
  · refine lv_aload_n hx hb dX10_climbs_32 rfl (lv_at hl 1 rfl) ?_
    refine va_get (D := E.1) (ci := 9) (v := .ref k1) (C := RX10) (T := TX10) (N := 11) hx hb hts hi_X10 hown hK.1 hP 0 rfl rfl 1 (by decide) (hts (.fieldLink RX10 7 "AltimeterWatchModel" "s" "[I") (by decide +kernel)) (fun _ h9 => h9) rfl dX10_climbs_33 ?_
    refine lv_iload_n hx hb dX10_climbs_36 rfl (lv_at hl 2 rfl) ?_
    refine lv_bipush (v := 7) hx hb dX10_climbs_37 (by decide) ?_
    refine lv_iadd hx hb dX10_climbs_39 ?_
    refine lv_dup2_11 hx hb dX10_climbs_40 rfl rfl ?_
    refine z_iald (k := (b + 7)) hx hb hK.1 hP 1 rfl (z_addI rfl rfl) (by omega) (by decide) dX10_climbs_41 ?_
    refine lv_iload_n hx hb dX10_climbs_42 rfl (lv_at hl 0 rfl) ?_
    refine lv_if_le (tgt := 50) hx hb dX10_climbs_43 (by decide) (fun c_43 => ?_) (fun c_43 => ?_)
    · refine lv_iconst (v := 0) hx hb dX10_climbs_50 (by decide) ?_
      refine lv_iadd hx hb dX10_climbs_51 ?_
      refine lv_topi (fun f_2 ef_2 => ?_)
      refine z_iast (k := (b + 7)) hx hb hK.1 hP hD hS 1 rfl (z_addI rfl rfl) (by omega) (by decide) dX10_climbs_52 (fun H locs hP hD hS => ?_)
      have hP : va_P E.1 vwCl ([[(h0, .inr (9, [.int th, .ref k1, .int sd, .ref k2, .ref k3, .int ln, .int at0, .int pt, .int mi, .int nu, .long ha]))], [(k1, .inl (E.2 0, 1160, .inl (upd sv (b + 7) f_2)))]] : List va_W).flatten H := hP
      have hD : va_D A ([[(h0, .inr (9, [.int th, .ref k1, .int sd, .ref k2, .ref k3, .int ln, .int at0, .int pt, .int mi, .int nu, .long ha]))], [(k1, .inl (E.2 0, 1160, .inl (upd sv (b + 7) f_2)))]] : List va_W).flatten := hD
      refine lv_aload_n hx hb dX10_climbs_53 rfl (lv_at hl 1 rfl) ?_
      refine va_get (D := E.1) (ci := 9) (v := .ref k1) (C := RX10) (T := TX10) (N := 11) hx hb hts hi_X10 hown hK.1 hP 0 rfl rfl 1 (by decide) (hts (.fieldLink RX10 7 "AltimeterWatchModel" "s" "[I") (by decide +kernel)) (fun _ h9 => h9) rfl dX10_climbs_54 ?_
      refine lv_iload_n hx hb dX10_climbs_57 rfl (lv_at hl 2 rfl) ?_
      refine lv_bipush (v := 8) hx hb dX10_climbs_58 (by decide) ?_
      refine lv_iadd hx hb dX10_climbs_60 ?_
      refine lv_dup2_11 hx hb dX10_climbs_61 rfl rfl ?_
      refine z_iald (k := (b + 8)) hx hb hK.1 hP 1 rfl (z_addI rfl rfl) (by omega) (by decide) dX10_climbs_62 ?_
      refine z_topi (y := (sv (b + 8))) (by simp [upd]) ?_
      refine lv_iload_n hx hb dX10_climbs_63 rfl (lv_at hl 0 rfl) ?_
      refine lv_if_ge (tgt := 72) hx hb dX10_climbs_64 (by decide) (fun c_64 => ?_) (fun c_64 => ?_)
      · refine lv_iconst (v := 0) hx hb dX10_climbs_72 (by decide) ?_
        refine lv_iadd hx hb dX10_climbs_73 ?_
        refine lv_topi (fun f_3 ef_3 => ?_)
        refine z_iast (k := (b + 8)) hx hb hK.1 hP hD hS 1 rfl (z_addI rfl rfl) (by omega) (by decide) dX10_climbs_74 (fun H locs hP hD hS => ?_)
        have hP : va_P E.1 vwCl ([[(h0, .inr (9, [.int th, .ref k1, .int sd, .ref k2, .ref k3, .int ln, .int at0, .int pt, .int mi, .int nu, .long ha]))], [(k1, .inl (E.2 0, 1160, .inl (upd (upd sv (b + 7) f_2) (b + 8) f_3)))]] : List va_W).flatten H := hP
        have hD : va_D A ([[(h0, .inr (9, [.int th, .ref k1, .int sd, .ref k2, .ref k3, .int ln, .int at0, .int pt, .int mi, .int nu, .long ha]))], [(k1, .inl (E.2 0, 1160, .inl (upd (upd sv (b + 7) f_2) (b + 8) f_3)))]] : List va_W).flatten := hD
        refine lv_aload_n hx hb dX10_climbs_75 rfl (lv_at hl 1 rfl) ?_
        refine va_get (D := E.1) (ci := 9) (v := .ref k1) (C := RX10) (T := TX10) (N := 11) hx hb hts hi_X10 hown hK.1 hP 0 rfl rfl 1 (by decide) (hts (.fieldLink RX10 7 "AltimeterWatchModel" "s" "[I") (by decide +kernel)) (fun _ h9 => h9) rfl dX10_climbs_76 ?_
        refine lv_iload_n hx hb dX10_climbs_79 rfl (lv_at hl 2 rfl) ?_
        refine lv_bipush (v := 9) hx hb dX10_climbs_80 (by decide) ?_
        refine lv_iadd hx hb dX10_climbs_82 ?_
        refine lv_dup2_11 hx hb dX10_climbs_83 rfl rfl ?_
        refine z_iald (k := (b + 9)) hx hb hK.1 hP 1 rfl (z_addI rfl rfl) (by omega) (by decide) dX10_climbs_84 ?_
        refine z_topi (y := (sv (b + 9))) (by simp [upd]) ?_
        refine lv_iload_n hx hb dX10_climbs_85 rfl (lv_at hl 0 rfl) ?_
        refine lv_iadd hx hb dX10_climbs_86 ?_
        refine lv_topi (fun f_4 ef_4 => ?_)
        refine z_iast (k := (b + 9)) hx hb hK.1 hP hD hS 1 rfl (z_addI rfl rfl) (by omega) (by decide) dX10_climbs_87 (fun H locs hP hD hS => ?_)
        have hP : va_P E.1 vwCl ([[(h0, .inr (9, [.int th, .ref k1, .int sd, .ref k2, .ref k3, .int ln, .int at0, .int pt, .int mi, .int nu, .long ha]))], [(k1, .inl (E.2 0, 1160, .inl (upd (upd (upd sv (b + 7) f_2) (b + 8) f_3) (b + 9) f_4)))]] : List va_W).flatten H := hP
        have hD : va_D A ([[(h0, .inr (9, [.int th, .ref k1, .int sd, .ref k2, .ref k3, .int ln, .int at0, .int pt, .int mi, .int nu, .long ha]))], [(k1, .inl (E.2 0, 1160, .inl (upd (upd (upd sv (b + 7) f_2) (b + 8) f_3) (b + 9) f_4)))]] : List va_W).flatten := hD
        have hP : va_P E.1 vwCl ([[(h0, .inr (9, [.int th, .ref k1, .int sd, .ref k2, .ref k3, .int ln, .int at0, .int pt, .int mi, .int nu, .long ha]))], [(k1, .inl (E.2 0, 1160, .inl (upd (upd (upd sv (b + 7) f_2) (b + 8) f_3) (b + 9) f_4)))]] : List va_W).flatten H := zf_sub hP [0, 1] rfl
        have hD : va_D A ([[(h0, .inr (9, [.int th, .ref k1, .int sd, .ref k2, .ref k3, .int ln, .int at0, .int pt, .int mi, .int nu, .long ha]))], [(k1, .inl (E.2 0, 1160, .inl (upd (upd (upd sv (b + 7) f_2) (b + 8) f_3) (b + 9) f_4)))]] : List va_W).flatten := zf_subD hD [0, 1] (by decide) rfl
        exact W.vret hx hb hr (z_end hP hD hS (by rw [m_clA, ← ef_1, m_clB, if_pos (Int32.not_lt.mp c_29), if_neg (Int32.not_lt.mpr c_43), if_neg (Int32.not_lt.mpr c_64), ef_4, ef_3, ef_2])) hS.2.2 dX10_climbs_88 hlocks
      · refine lv_iload_n hx hb dX10_climbs_67 rfl (lv_at hl 0 rfl) ?_
        refine lv_ineg hx hb dX10_climbs_68 ?_
        refine lv_goto (tgt := 73) hx hb dX10_climbs_69 (by decide) ?_
        refine lv_iadd hx hb dX10_climbs_73 ?_
        refine lv_topi (fun f_5 ef_5 => ?_)
        refine z_iast (k := (b + 8)) hx hb hK.1 hP hD hS 1 rfl (z_addI rfl rfl) (by omega) (by decide) dX10_climbs_74 (fun H locs hP hD hS => ?_)
        have hP : va_P E.1 vwCl ([[(h0, .inr (9, [.int th, .ref k1, .int sd, .ref k2, .ref k3, .int ln, .int at0, .int pt, .int mi, .int nu, .long ha]))], [(k1, .inl (E.2 0, 1160, .inl (upd (upd sv (b + 7) f_2) (b + 8) f_5)))]] : List va_W).flatten H := hP
        have hD : va_D A ([[(h0, .inr (9, [.int th, .ref k1, .int sd, .ref k2, .ref k3, .int ln, .int at0, .int pt, .int mi, .int nu, .long ha]))], [(k1, .inl (E.2 0, 1160, .inl (upd (upd sv (b + 7) f_2) (b + 8) f_5)))]] : List va_W).flatten := hD
        refine lv_aload_n hx hb dX10_climbs_75 rfl (lv_at hl 1 rfl) ?_
        refine va_get (D := E.1) (ci := 9) (v := .ref k1) (C := RX10) (T := TX10) (N := 11) hx hb hts hi_X10 hown hK.1 hP 0 rfl rfl 1 (by decide) (hts (.fieldLink RX10 7 "AltimeterWatchModel" "s" "[I") (by decide +kernel)) (fun _ h9 => h9) rfl dX10_climbs_76 ?_
        refine lv_iload_n hx hb dX10_climbs_79 rfl (lv_at hl 2 rfl) ?_
        refine lv_bipush (v := 9) hx hb dX10_climbs_80 (by decide) ?_
        refine lv_iadd hx hb dX10_climbs_82 ?_
        refine lv_dup2_11 hx hb dX10_climbs_83 rfl rfl ?_
        refine z_iald (k := (b + 9)) hx hb hK.1 hP 1 rfl (z_addI rfl rfl) (by omega) (by decide) dX10_climbs_84 ?_
        refine z_topi (y := (sv (b + 9))) (by simp [upd]) ?_
        refine lv_iload_n hx hb dX10_climbs_85 rfl (lv_at hl 0 rfl) ?_
        refine lv_iadd hx hb dX10_climbs_86 ?_
        refine lv_topi (fun f_6 ef_6 => ?_)
        refine z_iast (k := (b + 9)) hx hb hK.1 hP hD hS 1 rfl (z_addI rfl rfl) (by omega) (by decide) dX10_climbs_87 (fun H locs hP hD hS => ?_)
        have hP : va_P E.1 vwCl ([[(h0, .inr (9, [.int th, .ref k1, .int sd, .ref k2, .ref k3, .int ln, .int at0, .int pt, .int mi, .int nu, .long ha]))], [(k1, .inl (E.2 0, 1160, .inl (upd (upd (upd sv (b + 7) f_2) (b + 8) f_5) (b + 9) f_6)))]] : List va_W).flatten H := hP
        have hD : va_D A ([[(h0, .inr (9, [.int th, .ref k1, .int sd, .ref k2, .ref k3, .int ln, .int at0, .int pt, .int mi, .int nu, .long ha]))], [(k1, .inl (E.2 0, 1160, .inl (upd (upd (upd sv (b + 7) f_2) (b + 8) f_5) (b + 9) f_6)))]] : List va_W).flatten := hD
        have hP : va_P E.1 vwCl ([[(h0, .inr (9, [.int th, .ref k1, .int sd, .ref k2, .ref k3, .int ln, .int at0, .int pt, .int mi, .int nu, .long ha]))], [(k1, .inl (E.2 0, 1160, .inl (upd (upd (upd sv (b + 7) f_2) (b + 8) f_5) (b + 9) f_6)))]] : List va_W).flatten H := zf_sub hP [0, 1] rfl
        have hD : va_D A ([[(h0, .inr (9, [.int th, .ref k1, .int sd, .ref k2, .ref k3, .int ln, .int at0, .int pt, .int mi, .int nu, .long ha]))], [(k1, .inl (E.2 0, 1160, .inl (upd (upd (upd sv (b + 7) f_2) (b + 8) f_5) (b + 9) f_6)))]] : List va_W).flatten := zf_subD hD [0, 1] (by decide) rfl
        exact W.vret hx hb hr (z_end hP hD hS (by rw [m_clA, ← ef_1, m_clB, if_pos (Int32.not_lt.mp c_29), if_neg (Int32.not_lt.mpr c_43), if_pos (Int32.not_le.mp c_64), ef_6, ef_5, ef_2])) hS.2.2 dX10_climbs_88 hlocks
    · refine lv_iload_n hx hb dX10_climbs_46 rfl (lv_at hl 0 rfl) ?_
      refine lv_goto (tgt := 51) hx hb dX10_climbs_47 (by decide) ?_
      refine lv_iadd hx hb dX10_climbs_51 ?_
      refine lv_topi (fun f_7 ef_7 => ?_)
      refine z_iast (k := (b + 7)) hx hb hK.1 hP hD hS 1 rfl (z_addI rfl rfl) (by omega) (by decide) dX10_climbs_52 (fun H locs hP hD hS => ?_)
      have hP : va_P E.1 vwCl ([[(h0, .inr (9, [.int th, .ref k1, .int sd, .ref k2, .ref k3, .int ln, .int at0, .int pt, .int mi, .int nu, .long ha]))], [(k1, .inl (E.2 0, 1160, .inl (upd sv (b + 7) f_7)))]] : List va_W).flatten H := hP
      have hD : va_D A ([[(h0, .inr (9, [.int th, .ref k1, .int sd, .ref k2, .ref k3, .int ln, .int at0, .int pt, .int mi, .int nu, .long ha]))], [(k1, .inl (E.2 0, 1160, .inl (upd sv (b + 7) f_7)))]] : List va_W).flatten := hD
      refine lv_aload_n hx hb dX10_climbs_53 rfl (lv_at hl 1 rfl) ?_
      refine va_get (D := E.1) (ci := 9) (v := .ref k1) (C := RX10) (T := TX10) (N := 11) hx hb hts hi_X10 hown hK.1 hP 0 rfl rfl 1 (by decide) (hts (.fieldLink RX10 7 "AltimeterWatchModel" "s" "[I") (by decide +kernel)) (fun _ h9 => h9) rfl dX10_climbs_54 ?_
      refine lv_iload_n hx hb dX10_climbs_57 rfl (lv_at hl 2 rfl) ?_
      refine lv_bipush (v := 8) hx hb dX10_climbs_58 (by decide) ?_
      refine lv_iadd hx hb dX10_climbs_60 ?_
      refine lv_dup2_11 hx hb dX10_climbs_61 rfl rfl ?_
      refine z_iald (k := (b + 8)) hx hb hK.1 hP 1 rfl (z_addI rfl rfl) (by omega) (by decide) dX10_climbs_62 ?_
      refine z_topi (y := (sv (b + 8))) (by simp [upd]) ?_
      refine lv_iload_n hx hb dX10_climbs_63 rfl (lv_at hl 0 rfl) ?_
      refine lv_if_ge (tgt := 72) hx hb dX10_climbs_64 (by decide) (fun c_64 => ?_) (fun c_64 => ?_)
      · refine lv_iconst (v := 0) hx hb dX10_climbs_72 (by decide) ?_
        refine lv_iadd hx hb dX10_climbs_73 ?_
        refine lv_topi (fun f_8 ef_8 => ?_)
        refine z_iast (k := (b + 8)) hx hb hK.1 hP hD hS 1 rfl (z_addI rfl rfl) (by omega) (by decide) dX10_climbs_74 (fun H locs hP hD hS => ?_)
        have hP : va_P E.1 vwCl ([[(h0, .inr (9, [.int th, .ref k1, .int sd, .ref k2, .ref k3, .int ln, .int at0, .int pt, .int mi, .int nu, .long ha]))], [(k1, .inl (E.2 0, 1160, .inl (upd (upd sv (b + 7) f_7) (b + 8) f_8)))]] : List va_W).flatten H := hP
        have hD : va_D A ([[(h0, .inr (9, [.int th, .ref k1, .int sd, .ref k2, .ref k3, .int ln, .int at0, .int pt, .int mi, .int nu, .long ha]))], [(k1, .inl (E.2 0, 1160, .inl (upd (upd sv (b + 7) f_7) (b + 8) f_8)))]] : List va_W).flatten := hD
        refine lv_aload_n hx hb dX10_climbs_75 rfl (lv_at hl 1 rfl) ?_
        refine va_get (D := E.1) (ci := 9) (v := .ref k1) (C := RX10) (T := TX10) (N := 11) hx hb hts hi_X10 hown hK.1 hP 0 rfl rfl 1 (by decide) (hts (.fieldLink RX10 7 "AltimeterWatchModel" "s" "[I") (by decide +kernel)) (fun _ h9 => h9) rfl dX10_climbs_76 ?_
        refine lv_iload_n hx hb dX10_climbs_79 rfl (lv_at hl 2 rfl) ?_
        refine lv_bipush (v := 9) hx hb dX10_climbs_80 (by decide) ?_
        refine lv_iadd hx hb dX10_climbs_82 ?_
        refine lv_dup2_11 hx hb dX10_climbs_83 rfl rfl ?_
        refine z_iald (k := (b + 9)) hx hb hK.1 hP 1 rfl (z_addI rfl rfl) (by omega) (by decide) dX10_climbs_84 ?_
        refine z_topi (y := (sv (b + 9))) (by simp [upd]) ?_
        refine lv_iload_n hx hb dX10_climbs_85 rfl (lv_at hl 0 rfl) ?_
        refine lv_iadd hx hb dX10_climbs_86 ?_
        refine lv_topi (fun f_9 ef_9 => ?_)
        refine z_iast (k := (b + 9)) hx hb hK.1 hP hD hS 1 rfl (z_addI rfl rfl) (by omega) (by decide) dX10_climbs_87 (fun H locs hP hD hS => ?_)
        have hP : va_P E.1 vwCl ([[(h0, .inr (9, [.int th, .ref k1, .int sd, .ref k2, .ref k3, .int ln, .int at0, .int pt, .int mi, .int nu, .long ha]))], [(k1, .inl (E.2 0, 1160, .inl (upd (upd (upd sv (b + 7) f_7) (b + 8) f_8) (b + 9) f_9)))]] : List va_W).flatten H := hP
        have hD : va_D A ([[(h0, .inr (9, [.int th, .ref k1, .int sd, .ref k2, .ref k3, .int ln, .int at0, .int pt, .int mi, .int nu, .long ha]))], [(k1, .inl (E.2 0, 1160, .inl (upd (upd (upd sv (b + 7) f_7) (b + 8) f_8) (b + 9) f_9)))]] : List va_W).flatten := hD
        have hP : va_P E.1 vwCl ([[(h0, .inr (9, [.int th, .ref k1, .int sd, .ref k2, .ref k3, .int ln, .int at0, .int pt, .int mi, .int nu, .long ha]))], [(k1, .inl (E.2 0, 1160, .inl (upd (upd (upd sv (b + 7) f_7) (b + 8) f_8) (b + 9) f_9)))]] : List va_W).flatten H := zf_sub hP [0, 1] rfl
        have hD : va_D A ([[(h0, .inr (9, [.int th, .ref k1, .int sd, .ref k2, .ref k3, .int ln, .int at0, .int pt, .int mi, .int nu, .long ha]))], [(k1, .inl (E.2 0, 1160, .inl (upd (upd (upd sv (b + 7) f_7) (b + 8) f_8) (b + 9) f_9)))]] : List va_W).flatten := zf_subD hD [0, 1] (by decide) rfl
        exact W.vret hx hb hr (z_end hP hD hS (by rw [m_clA, ← ef_1, m_clB, if_pos (Int32.not_lt.mp c_29), if_pos (Int32.not_le.mp c_43), if_neg (Int32.not_lt.mpr c_64), ef_9, ef_8, ef_7])) hS.2.2 dX10_climbs_88 hlocks
      · refine lv_iload_n hx hb dX10_climbs_67 rfl (lv_at hl 0 rfl) ?_
        refine lv_ineg hx hb dX10_climbs_68 ?_
        refine lv_goto (tgt := 73) hx hb dX10_climbs_69 (by decide) ?_
        refine lv_iadd hx hb dX10_climbs_73 ?_
        refine lv_topi (fun f_10 ef_10 => ?_)
        refine z_iast (k := (b + 8)) hx hb hK.1 hP hD hS 1 rfl (z_addI rfl rfl) (by omega) (by decide) dX10_climbs_74 (fun H locs hP hD hS => ?_)
        have hP : va_P E.1 vwCl ([[(h0, .inr (9, [.int th, .ref k1, .int sd, .ref k2, .ref k3, .int ln, .int at0, .int pt, .int mi, .int nu, .long ha]))], [(k1, .inl (E.2 0, 1160, .inl (upd (upd sv (b + 7) f_7) (b + 8) f_10)))]] : List va_W).flatten H := hP
        have hD : va_D A ([[(h0, .inr (9, [.int th, .ref k1, .int sd, .ref k2, .ref k3, .int ln, .int at0, .int pt, .int mi, .int nu, .long ha]))], [(k1, .inl (E.2 0, 1160, .inl (upd (upd sv (b + 7) f_7) (b + 8) f_10)))]] : List va_W).flatten := hD
        refine lv_aload_n hx hb dX10_climbs_75 rfl (lv_at hl 1 rfl) ?_
        refine va_get (D := E.1) (ci := 9) (v := .ref k1) (C := RX10) (T := TX10) (N := 11) hx hb hts hi_X10 hown hK.1 hP 0 rfl rfl 1 (by decide) (hts (.fieldLink RX10 7 "AltimeterWatchModel" "s" "[I") (by decide +kernel)) (fun _ h9 => h9) rfl dX10_climbs_76 ?_
        refine lv_iload_n hx hb dX10_climbs_79 rfl (lv_at hl 2 rfl) ?_
        refine lv_bipush (v := 9) hx hb dX10_climbs_80 (by decide) ?_
        refine lv_iadd hx hb dX10_climbs_82 ?_
        refine lv_dup2_11 hx hb dX10_climbs_83 rfl rfl ?_
        refine z_iald (k := (b + 9)) hx hb hK.1 hP 1 rfl (z_addI rfl rfl) (by omega) (by decide) dX10_climbs_84 ?_
        refine z_topi (y := (sv (b + 9))) (by simp [upd]) ?_
        refine lv_iload_n hx hb dX10_climbs_85 rfl (lv_at hl 0 rfl) ?_
        refine lv_iadd hx hb dX10_climbs_86 ?_
        refine lv_topi (fun f_11 ef_11 => ?_)
        refine z_iast (k := (b + 9)) hx hb hK.1 hP hD hS 1 rfl (z_addI rfl rfl) (by omega) (by decide) dX10_climbs_87 (fun H locs hP hD hS => ?_)
        have hP : va_P E.1 vwCl ([[(h0, .inr (9, [.int th, .ref k1, .int sd, .ref k2, .ref k3, .int ln, .int at0, .int pt, .int mi, .int nu, .long ha]))], [(k1, .inl (E.2 0, 1160, .inl (upd (upd (upd sv (b + 7) f_7) (b + 8) f_10) (b + 9) f_11)))]] : List va_W).flatten H := hP
        have hD : va_D A ([[(h0, .inr (9, [.int th, .ref k1, .int sd, .ref k2, .ref k3, .int ln, .int at0, .int pt, .int mi, .int nu, .long ha]))], [(k1, .inl (E.2 0, 1160, .inl (upd (upd (upd sv (b + 7) f_7) (b + 8) f_10) (b + 9) f_11)))]] : List va_W).flatten := hD
        have hP : va_P E.1 vwCl ([[(h0, .inr (9, [.int th, .ref k1, .int sd, .ref k2, .ref k3, .int ln, .int at0, .int pt, .int mi, .int nu, .long ha]))], [(k1, .inl (E.2 0, 1160, .inl (upd (upd (upd sv (b + 7) f_7) (b + 8) f_10) (b + 9) f_11)))]] : List va_W).flatten H := zf_sub hP [0, 1] rfl
        have hD : va_D A ([[(h0, .inr (9, [.int th, .ref k1, .int sd, .ref k2, .ref k3, .int ln, .int at0, .int pt, .int mi, .int nu, .long ha]))], [(k1, .inl (E.2 0, 1160, .inl (upd (upd (upd sv (b + 7) f_7) (b + 8) f_10) (b + 9) f_11)))]] : List va_W).flatten := zf_subD hD [0, 1] (by decide) rfl
        exact W.vret hx hb hr (z_end hP hD hS (by rw [m_clA, ← ef_1, m_clB, if_pos (Int32.not_lt.mp c_29), if_pos (Int32.not_le.mp c_43), if_pos (Int32.not_le.mp c_64), ef_11, ef_10, ef_7])) hS.2.2 dX10_climbs_88 hlocks

set_option maxHeartbeats 4000000 in
set_option maxRecDepth 100000 in
theorem c_X10_fallOf (l : Launch) (E : zE) (h0 k1 k2 k3 : Nat) (th sd ln at0 pt mi nu : Int32) (ha : Int64) (x1 : Int32) (b : Nat) (e1 : x1 = nI b) (hb0 : b ≤ 1044) (sv : Nat → Int32) (m : Nat) (hm : sv (b + 14) = nI m) (hm6 : m ≤ 60) : zR l yX10_fallOf wsX10_fallOf ({ frames := 0, cells := 0, slots := 0, locals := 0 }) E [.ref h0, .int x1] ([[(h0, .inr (9, [.int th, .ref k1, .int sd, .ref k2, .ref k3, .int ln, .int at0, .int pt, .int mi, .int nu, .long ha]))], [(k1, .inl (E.2 0, 1160, .inl sv))]] : List va_W).flatten (some (.int (m_fallM sv b m))) := by
  subst e1
  refine z_startr (cc := cX10_fallOf) (maxL := 5) (ret := (some .int)) (by decide) rfl (Nat.le_of_ble_eq_true rfl) ?_
  intro Pg En s Mi below meth Cd hx hb hr hts hown hlocks hml hP hK ls hl
  have hl : lv_has ls 5 [(0, .ref h0), (1, .int (nI b))] := hl
  have hi_X10 : ∀ w ∈ wsX100, w ∈ wsX10_fallOf := by decide +kernel
  have LOOP_15 : ∀ (kz : Nat) (i : Nat) (x mx nn : Int32), m < i + kz → i ≤ m → x = nI i → mx = m_fmM sv b i → nn = nI m →  ∀ (ls : Array Slot), lv_has ls 5 [(0, .ref h0), (1, .int (nI b)), (2, .int nn), (3, .int mx), (4, .int x)] → W Pg l En ({ frames := 0, cells := 0, slots := 0, locals := 0 } : Room) s Mi ([.ref h0, .int (nI b)] : List Value).toArray below meth Cd s.heap [] 0 0 (MQ below (zQr (some (.int (m_fallM sv b m)))) ([.ref h0, .int (nI b)] : List Value).toArray s 0 0 (fun _ => False)) (F0 Mi 15 ls []) := by
    intro kz
    induction kz with
    | zero => intro i x mx nn h1 h2 h3 h5 hnn; exact absurd h1 (by omega)
    | succ kz ih =>
      intro i x mx nn h1 h2 h3 h5 hnn ls hl
      refine lv_iload hx hb dX10_fallOf_15 (lv_at hl 4 rfl) ?_
      refine lv_iload_n hx hb dX10_fallOf_17 rfl (lv_at hl 2 rfl) ?_
      refine lv_icmp_ge (tgt := 60) hx hb dX10_fallOf_18 (by decide) (fun c_18 => ?_) (fun c_18 => ?_)
      · refine lv_iload_n hx hb dX10_fallOf_60 rfl (lv_at hl 2 rfl) ?_
        refine lv_if_ne (tgt := 68) hx hb dX10_fallOf_61 (by decide) (fun c_61 => ?_) (fun c_61 => ?_)
        · refine lv_iload_n hx hb dX10_fallOf_68 rfl (lv_at hl 3 rfl) ?_
          refine lv_aload_n hx hb dX10_fallOf_69 rfl (lv_at hl 0 rfl) ?_
          refine va_get (D := E.1) (ci := 9) (v := .ref k1) (C := RX10) (T := TX10) (N := 11) hx hb hts hi_X10 hown hK.1 hP 0 rfl rfl 1 (by decide) (hts (.fieldLink RX10 7 "AltimeterWatchModel" "s" "[I") (by decide +kernel)) (fun _ h9 => h9) rfl dX10_fallOf_70 ?_
          refine lv_iload_n hx hb dX10_fallOf_73 rfl (lv_at hl 1 rfl) ?_
          refine lv_bipush (v := 15) hx hb dX10_fallOf_74 (by decide) ?_
          refine lv_iadd hx hb dX10_fallOf_76 ?_
          refine lv_iload_n hx hb dX10_fallOf_77 rfl (lv_at hl 2 rfl) ?_
          refine lv_iadd hx hb dX10_fallOf_78 ?_
          refine lv_iconst (v := 1) hx hb dX10_fallOf_79 (by decide) ?_
          refine lv_isub hx hb dX10_fallOf_80 ?_
          refine z_iald (k := (((b + 15) + m) - 1)) hx hb hK.1 hP 1 rfl (z_subI (z_addI (z_addI rfl rfl) hnn) rfl (by omega)) (by omega) (by decide) dX10_fallOf_81 ?_
          refine lv_isub hx hb dX10_fallOf_82 ?_
          refine z_topi (y := m_fallM sv b m) (by rw [m_fallM, if_neg (fun h9 => c_61 (by rw [hnn, h9]; rfl)), h5, show i = m from (by have := nI_len (a := m) (b := i) (by omega) (by omega) (by rw [← h3, ← hnn]; exact c_18); omega)]) ?_
          exact W.iret (v := m_fallM sv b m) hx hb hr z_endR (fun _ h => by cases h) dX10_fallOf_83 hlocks
        · refine lv_iconst (v := 0) hx hb dX10_fallOf_64 (by decide) ?_
          refine lv_goto (tgt := 83) hx hb dX10_fallOf_65 (by decide) ?_
          refine z_topi (y := m_fallM sv b m) (by rw [m_fallM, if_pos (Nat.eq_zero_of_not_pos (fun h9 => nI_ne0 h9 (by omega) (by rw [← hnn]; exact c_61)))]) ?_
          exact W.iret (v := m_fallM sv b m) hx hb hr z_endR (fun _ h => by cases h) dX10_fallOf_83 hlocks
      · have hlt : i < m := nI_nlen (by omega) (by omega) (by rw [← h3, ← hnn]; exact c_18)
        refine lv_aload_n hx hb dX10_fallOf_21 rfl (lv_at hl 0 rfl) ?_
        refine va_get (D := E.1) (ci := 9) (v := .ref k1) (C := RX10) (T := TX10) (N := 11) hx hb hts hi_X10 hown hK.1 hP 0 rfl rfl 1 (by decide) (hts (.fieldLink RX10 7 "AltimeterWatchModel" "s" "[I") (by decide +kernel)) (fun _ h9 => h9) rfl dX10_fallOf_22 ?_
        refine lv_iload_n hx hb dX10_fallOf_25 rfl (lv_at hl 1 rfl) ?_
        refine lv_bipush (v := 15) hx hb dX10_fallOf_26 (by decide) ?_
        refine lv_iadd hx hb dX10_fallOf_28 ?_
        refine lv_iload hx hb dX10_fallOf_29 (lv_at hl 4 rfl) ?_
        refine lv_iadd hx hb dX10_fallOf_31 ?_
        refine z_iald (k := ((b + 15) + i)) hx hb hK.1 hP 1 rfl (z_addI (z_addI rfl rfl) h3) (by omega) (by decide) dX10_fallOf_32 ?_
        refine lv_iload_n hx hb dX10_fallOf_33 rfl (lv_at hl 3 rfl) ?_
        refine lv_icmp_le (tgt := 52) hx hb dX10_fallOf_34 (by decide) (fun c_34 => ?_) (fun c_34 => ?_)
        · refine lv_iload_n hx hb dX10_fallOf_52 rfl (lv_at hl 3 rfl) ?_
          refine lv_istore_n (lv' := [(3, .int mx), (0, .ref h0), (1, .int (nI b)), (2, .int nn), (4, .int x)]) hx hb dX10_fallOf_53 rfl hl (by decide) rfl (fun ls hl => ?_)
          obtain ⟨x_1, ex_1⟩ : ∃ y : Int32, y = x + 1 := ⟨_, rfl⟩
          refine lv_iinc (v := x_1) (lv' := [(4, .int x_1), (3, .int mx), (0, .ref h0), (1, .int (nI b)), (2, .int nn)]) hx hb dX10_fallOf_54 hl (k := 4) rfl (by rw [ex_1]; rfl) (by decide) rfl (fun ls hl => ?_)
          refine lv_goto (tgt := 15) hx hb dX10_fallOf_57 (by decide) ?_
          exact ih (i + 1) x_1 mx nn (by omega) (by omega) (by rw [ex_1, h3]; exact nI_1 i) (by rw [m_fmM, if_neg (by rw [← h5]; exact Int32.not_lt.mpr c_34), h5]) hnn ls (lv_sub hl [2, 3, 4, 1, 0] rfl)
        · refine lv_aload_n hx hb dX10_fallOf_37 rfl (lv_at hl 0 rfl) ?_
          refine va_get (D := E.1) (ci := 9) (v := .ref k1) (C := RX10) (T := TX10) (N := 11) hx hb hts hi_X10 hown hK.1 hP 0 rfl rfl 1 (by decide) (hts (.fieldLink RX10 7 "AltimeterWatchModel" "s" "[I") (by decide +kernel)) (fun _ h9 => h9) rfl dX10_fallOf_38 ?_
          refine lv_iload_n hx hb dX10_fallOf_41 rfl (lv_at hl 1 rfl) ?_
          refine lv_bipush (v := 15) hx hb dX10_fallOf_42 (by decide) ?_
          refine lv_iadd hx hb dX10_fallOf_44 ?_
          refine lv_iload hx hb dX10_fallOf_45 (lv_at hl 4 rfl) ?_
          refine lv_iadd hx hb dX10_fallOf_47 ?_
          refine z_iald (k := ((b + 15) + i)) hx hb hK.1 hP 1 rfl (z_addI (z_addI rfl rfl) h3) (by omega) (by decide) dX10_fallOf_48 ?_
          refine lv_goto (tgt := 53) hx hb dX10_fallOf_49 (by decide) ?_
          refine lv_topi (fun f_2 ef_2 => ?_)
          refine lv_istore_n (lv' := [(3, .int f_2), (0, .ref h0), (1, .int (nI b)), (2, .int nn), (4, .int x)]) hx hb dX10_fallOf_53 rfl hl (by decide) rfl (fun ls hl => ?_)
          obtain ⟨x_3, ex_3⟩ : ∃ y : Int32, y = x + 1 := ⟨_, rfl⟩
          refine lv_iinc (v := x_3) (lv' := [(4, .int x_3), (3, .int f_2), (0, .ref h0), (1, .int (nI b)), (2, .int nn)]) hx hb dX10_fallOf_54 hl (k := 4) rfl (by rw [ex_3]; rfl) (by decide) rfl (fun ls hl => ?_)
          refine lv_goto (tgt := 15) hx hb dX10_fallOf_57 (by decide) ?_
          exact ih (i + 1) x_3 f_2 nn (by omega) (by omega) (by rw [ex_3, h3]; exact nI_1 i) (by rw [m_fmM, if_pos (by rw [← h5]; exact Int32.not_le.mp c_34), ef_2]) hnn ls (lv_sub hl [2, 3, 4, 1, 0] rfl)
  refine lv_aload_n hx hb dX10_fallOf_0 rfl (lv_at hl 0 rfl) ?_
  refine va_get (D := E.1) (ci := 9) (v := .ref k1) (C := RX10) (T := TX10) (N := 11) hx hb hts hi_X10 hown hK.1 hP 0 rfl rfl 1 (by decide) (hts (.fieldLink RX10 7 "AltimeterWatchModel" "s" "[I") (by decide +kernel)) (fun _ h9 => h9) rfl dX10_fallOf_1 ?_
  refine lv_iload_n hx hb dX10_fallOf_4 rfl (lv_at hl 1 rfl) ?_
  refine lv_bipush (v := 14) hx hb dX10_fallOf_5 (by decide) ?_
  refine lv_iadd hx hb dX10_fallOf_7 ?_
  refine z_iald (k := (b + 14)) hx hb hK.1 hP 1 rfl (z_addI rfl rfl) (by omega) (by decide) dX10_fallOf_8 ?_
  refine lv_topi (fun f_4 ef_4 => ?_)
  refine lv_istore_n (lv' := [(2, .int f_4), (0, .ref h0), (1, .int (nI b))]) hx hb dX10_fallOf_9 rfl hl (by decide) rfl (fun ls hl => ?_)
  refine lv_iconst (v := 0) hx hb dX10_fallOf_10 (by decide) ?_
  refine lv_istore_n (lv' := [(3, .int 0), (2, .int f_4), (0, .ref h0), (1, .int (nI b))]) hx hb dX10_fallOf_11 rfl hl (by decide) rfl (fun ls hl => ?_)
  refine lv_iconst (v := 0) hx hb dX10_fallOf_12 (by decide) ?_
  refine lv_istore (lv' := [(4, .int 0), (3, .int 0), (2, .int f_4), (0, .ref h0), (1, .int (nI b))]) hx hb dX10_fallOf_13 hl (by decide) rfl (fun ls hl => ?_)
  exact LOOP_15 (m + 1) 0 0 0 _ (by omega) (by omega) rfl rfl (ef_4.trans hm) ls (lv_sub hl [3, 4, 2, 1, 0] rfl)

set_option maxHeartbeats 4000000 in
set_option maxRecDepth 100000 in
theorem c_X10_hasAlarm (l : Launch) (E : zE) (h0 k1 k2 k3 : Nat) (th sd ln at0 pt mi nu : Int32) (ha : Int64) (x1 : Int32) (b : Nat) (e1 : x1 = nI b) (hb0 : b ≤ 1044) (sv : Nat → Int32) (m : Nat) (hm : sv (b + 14) = nI m) (hm6 : m ≤ 60) : zR l yX10_hasAlarm wsX10_hasAlarm ({ frames := 1, cells := 0, slots := 0, locals := 24 }) E [.ref h0, .int x1] ([[(h0, .inr (9, [.int th, .ref k1, .int sd, .ref k2, .ref k3, .int ln, .int at0, .int pt, .int mi, .int nu, .long ha]))], [(k1, .inl (E.2 0, 1160, .inl sv))]] : List va_W).flatten (some (.int (m_alM sv b m))) := by
  subst e1
  refine z_startr (cc := cX10_hasAlarm) (maxL := 2) (ret := (some .boolean)) (by decide) rfl (Nat.le_of_ble_eq_true rfl) ?_
  intro Pg En s Mi below meth Cd hx hb hr hts hown hlocks hml hP hK ls hl
  have hl : lv_has ls 2 [(0, .ref h0), (1, .int (nI b))] := hl
  have hi_X10 : ∀ w ∈ wsX100, w ∈ wsX10_hasAlarm := by decide +kernel
  refine lv_aload_n hx hb dX10_hasAlarm_0 rfl (lv_at hl 0 rfl) ?_
  refine lv_iload_n hx hb dX10_hasAlarm_1 rfl (lv_at hl 1 rfl) ?_
  have hPc : va_P E.1 vwCl ([[(h0, .inr (9, [.int th, .ref k1, .int sd, .ref k2, .ref k3, .int ln, .int at0, .int pt, .int mi, .int nu, .long ha]))], [(k1, .inl (E.2 0, 1160, .inl sv))]] : List va_W).flatten s.heap := zf_sub hP [0, 1] rfl
  refine z_rdv (va_runV (As := [.int (nI b)]) (rest := []) ⟨hx, hb, hml, hown, hts⟩ (c_X10_fallOf l E h0 k1 k2 k3 th sd ln at0 pt mi nu ha (nI b) b rfl (by omega) sv m hm hm6) (cwV 1 hts gX10_hasAlarm_X10_fallOf rfl rfl rfl (by decide +kernel) ⟨Nat.le_of_ble_eq_true rfl, Nat.le_of_ble_eq_true rfl⟩) ⟨zPr.blind, va_recv hK.1 hPc (ci := 9) (q0 := 0) rfl rfl, z_prer hK hPc⟩ rfl rfl hl.1 rfl (lv_room (Nat.le_of_ble_eq_true rfl)) dX10_hasAlarm_2 ⟨Nat.le_of_ble_eq_true rfl, Nat.le_of_ble_eq_true rfl⟩) ?_
  refine W.eq (g2 := F0 Mi 5 ls [.int (m_fallM sv b m)]) rfl ?_
  refine lv_aload_n hx hb dX10_hasAlarm_5 rfl (lv_at hl 0 rfl) ?_
  refine va_get (D := E.1) (ci := 9) (v := .ref k1) (C := RX10) (T := TX10) (N := 11) hx hb hts hi_X10 hown hK.1 hP 0 rfl rfl 1 (by decide) (hts (.fieldLink RX10 7 "AltimeterWatchModel" "s" "[I") (by decide +kernel)) (fun _ h9 => h9) rfl dX10_hasAlarm_6 ?_
  refine lv_iload_n hx hb dX10_hasAlarm_9 rfl (lv_at hl 1 rfl) ?_
  refine lv_bipush (v := 11) hx hb dX10_hasAlarm_10 (by decide) ?_
  refine lv_iadd hx hb dX10_hasAlarm_12 ?_
  refine z_iald (k := (b + 11)) hx hb hK.1 hP 1 rfl (z_addI rfl rfl) (by omega) (by decide) dX10_hasAlarm_13 ?_
  refine lv_icmp_lt (tgt := 21) hx hb dX10_hasAlarm_14 (by decide) (fun c_14 => ?_) (fun c_14 => ?_)
  · refine lv_iconst (v := 0) hx hb dX10_hasAlarm_21 (by decide) ?_
    refine z_topi (y := m_alM sv b m) (by rw [m_alM, if_neg (Int32.not_le.mpr c_14)]) ?_
    exact W.zret (v := m_alM sv b m) hx hb hr (z_bool (m_alM01 _ _ _)) z_endR (fun _ h => by cases h) dX10_hasAlarm_22 hlocks
  · refine lv_iconst (v := 1) hx hb dX10_hasAlarm_17 (by decide) ?_
    refine lv_goto (tgt := 22) hx hb dX10_hasAlarm_18 (by decide) ?_
    refine z_topi (y := m_alM sv b m) (by rw [m_alM, if_pos (Int32.not_lt.mp c_14)]) ?_
    exact W.zret (v := m_alM sv b m) hx hb hr (z_bool (m_alM01 _ _ _)) z_endR (fun _ h => by cases h) dX10_hasAlarm_22 hlocks
