theorem m_in_y {v lo hi : Int32} (h : lo ≤ v ∧ v ≤ hi) : m_in v lo hi = 1 := by rw [m_in, if_pos h.1, if_pos h.2]
theorem m_in_n {v lo hi : Int32} (h : ¬ (lo ≤ v ∧ v ≤ hi)) : m_in v lo hi = 0 := by
  unfold m_in
  split
  · split
    · exact absurd ⟨by assumption, by assumption⟩ h
    · rfl
  · rfl
def m_trp (n p : Int32) : Int32 := if m_in n 1 120 = 0 then 0 else if m_in p 5000 11000 = 0 then 0 else 1
theorem m_trp01 (n p : Int32) : m_trp n p = 0 ∨ m_trp n p = 1 := by
  unfold m_trp
  repeat' split
  all_goals first | exact Or.inr rfl | exact Or.inl rfl
theorem m_cpA_ne {sv : Nat → Int32} {a c x : Nat} : ∀ k, (x < 116 * c ∨ 116 * c + k ≤ x) → m_cpA sv a c k x = sv x
  | 0, _ => rfl
  | k + 1, h => by
    rw [m_cpA, k_un (by omega)]
    exact m_cpA_ne k (by omega)
theorem m_cpA_at {sv : Nat → Int32} {a c j : Nat} (hac : a ≠ c) : ∀ k, k ≤ 116 → j < k → m_cpA sv a c k (116 * c + j) = sv (116 * a + j)
  | 0, _, h => absurd h (by omega)
  | k + 1, hk, h => by
    rw [m_cpA]
    by_cases e : j = k
    · subst e
      rw [k_us]
      exact m_cpA_ne _ (by omega)
    · rw [k_un (by omega)]
      exact m_cpA_at hac k (by omega) (by omega)
theorem m_svS_lo {sv : Nat → Int32} {x : Nat} (hx : x < 116) : ∀ k, m_svS sv k x = sv x
  | 0 => rfl
  | k + 1 => by
    rw [m_svS, m_cpA_ne _ (by omega)]
    exact m_svS_lo hx k
theorem m_svA_lo {sv : Nat → Int32} {d x : Nat} (hx : x < 116) : m_svA sv d x = sv x := by
  unfold m_svA
  have hc : 1 ≤ m_svC d := by unfold m_svC; split <;> omega
  rw [m_cpA_ne _ (by omega)]
  split
  · exact m_svS_lo hx _
  · rfl
theorem m_cp9 {sv : Nat → Int32} {j : Nat} (hj : j < 116) : m_cpA sv 0 9 116 (1044 + j) = sv j := by
  have := m_cpA_at (sv := sv) (a := 0) (c := 9) (j := j) (by decide) 116 (by decide) hj
  rw [show 116 * 9 + j = 1044 + j by omega, show 116 * 0 + j = j by omega] at this
  exact this

set_option maxHeartbeats 4000000 in
set_option maxRecDepth 100000 in
theorem c_X10_told (l : Launch) (E : zE) (h0 k1 k2 k3 : Nat) (th sd ln at0 pt mi nu : Int32) (ha : Int64) (x : Int32) : zM l yX10_told wsX10_told ({ frames := 0, cells := 0, slots := 0, locals := 0 }) E [.ref h0, .int x] ([[(h0, .inr (9, [.int th, .ref k1, .int sd, .ref k2, .ref k3, .int ln, .int at0, .int pt, .int mi, .int nu, .long ha]))]] : List va_W).flatten (some (.int x)) ([[(h0, .inr (9, [.int 0, .ref k1, .int sd, .ref k2, .ref k3, .int ln, .int at0, .int pt, .int mi, .int nu, .long ha]))]] : List va_W).flatten 0 0 := by
  refine z_start (cc := cX10_told) (maxL := 2) (ret := (some .int)) (by decide) rfl (Nat.le_of_ble_eq_true rfl) ?_
  intro Pg En s Mi below meth Cd A hx hb hr hts hown hlocks hin hml hA H hH hP hK hD hS ls hl
  have hl : lv_has ls 2 [(0, .ref h0), (1, .int x)] := hl
  have hi_X10 : ∀ w ∈ wsX100, w ∈ wsX10_told := by decide +kernel
  refine lv_aload_n hx hb dX10_told_0 rfl (lv_at hl 0 rfl) ?_
  refine lv_iconst (v := 0) hx hb dX10_told_1 (by decide) ?_
  refine va_put (D := E.1) (ci := 9) (v := .int 0) (ty := .int) (C := RX10) (T := TX10) (N := 11) hx hb hts hi_X10 tyX10 tyX10_ok nmX10 hown hK.1 hP hD hS 0 rfl rfl 0 (by decide) (hts (.fieldLink RX10 20 "AltimeterWatchModel" "thrown" "I") (by decide +kernel)) (fun _ h9 => h9) rfl (by decide +kernel) rfl rfl (Nat.le_of_ble_eq_true rfl) dX10_told_2 (fun H locs hP hD hS => ?_)
  have hP : va_P E.1 vwCl ([[(h0, .inr (9, [.int 0, .ref k1, .int sd, .ref k2, .ref k3, .int ln, .int at0, .int pt, .int mi, .int nu, .long ha]))]] : List va_W).flatten H := hP
  have hD : va_D A ([[(h0, .inr (9, [.int 0, .ref k1, .int sd, .ref k2, .ref k3, .int ln, .int at0, .int pt, .int mi, .int nu, .long ha]))]] : List va_W).flatten := hD
  refine lv_iload_n hx hb dX10_told_5 rfl (lv_at hl 1 rfl) ?_
  have hP : va_P E.1 vwCl ([[(h0, .inr (9, [.int 0, .ref k1, .int sd, .ref k2, .ref k3, .int ln, .int at0, .int pt, .int mi, .int nu, .long ha]))]] : List va_W).flatten H := zf_sub hP [0] rfl
  have hD : va_D A ([[(h0, .inr (9, [.int 0, .ref k1, .int sd, .ref k2, .ref k3, .int ln, .int at0, .int pt, .int mi, .int nu, .long ha]))]] : List va_W).flatten := zf_subD hD [0] (by decide) rfl
  exact W.iret (v := x) hx hb hr (z_end hP hD hS rfl) hS.2.2 dX10_told_6 hlocks

set_option maxHeartbeats 4000000 in
set_option maxRecDepth 100000 in
theorem c_X10_thrown (l : Launch) (E : zE) (h0 k1 k2 k3 : Nat) (th sd ln at0 pt mi nu : Int32) (ha : Int64) : zR l yX10_thrown wsX10_thrown ({ frames := 0, cells := 0, slots := 0, locals := 0 }) E [.ref h0] ([[(h0, .inr (9, [.int th, .ref k1, .int sd, .ref k2, .ref k3, .int ln, .int at0, .int pt, .int mi, .int nu, .long ha]))]] : List va_W).flatten (some (.int th)) := by
  refine z_startr (cc := cX10_thrown) (maxL := 1) (ret := (some .int)) (by decide) rfl (Nat.le_of_ble_eq_true rfl) ?_
  intro Pg En s Mi below meth Cd hx hb hr hts hown hlocks hml hP hK ls hl
  have hl : lv_has ls 1 [(0, .ref h0)] := hl
  have hi_X10 : ∀ w ∈ wsX100, w ∈ wsX10_thrown := by decide +kernel
  refine lv_aload_n hx hb dX10_thrown_0 rfl (lv_at hl 0 rfl) ?_
  refine va_get (D := E.1) (ci := 9) (v := .int th) (C := RX10) (T := TX10) (N := 11) hx hb hts hi_X10 hown hK.1 hP 0 rfl rfl 0 (by decide) (hts (.fieldLink RX10 20 "AltimeterWatchModel" "thrown" "I") (by decide +kernel)) (fun _ h9 => h9) rfl dX10_thrown_1 ?_
  exact W.iret (v := th) hx hb hr z_endR (fun _ h => by cases h) dX10_thrown_4 hlocks

set_option maxHeartbeats 4000000 in
set_option maxRecDepth 100000 in
theorem c_X10_isTrip (l : Launch) (E : zE) (p0 p1 : Int32) : zR l yX10_isTrip wsX10_isTrip ({ frames := 1, cells := 0, slots := 0, locals := 22 }) E [.int p0, .int p1] [] (some (.int (m_trp p0 p1))) := by
  refine z_startr (cc := cX10_isTrip) (maxL := 2) (ret := (some .boolean)) (by decide) rfl (Nat.le_of_ble_eq_true rfl) ?_
  intro Pg En s Mi below meth Cd hx hb hr hts hown hlocks hml hP hK ls hl
  have hl : lv_has ls 2 [(0, .int p0), (1, .int p1)] := hl
  refine lv_iload_n hx hb dX10_isTrip_0 rfl (lv_at hl 0 rfl) ?_
  refine lv_iconst (v := 1) hx hb dX10_isTrip_1 (by decide) ?_
  refine lv_bipush (v := 120) hx hb dX10_isTrip_2 (by decide) ?_
  refine z_rdv (va_runS (As := [.int p0, .int 1, .int 120]) (rest := []) ⟨hx, hb, hml, hown, hts⟩ (c_X10_in l E p0 1 120) (va_cwS 3 hts gX10_isTrip_X10_in rfl rfl rfl (by decide +kernel) ⟨Nat.le_of_ble_eq_true rfl, Nat.le_of_ble_eq_true rfl⟩) ⟨zPr.blind, z_prer hK zP_nil⟩ rfl rfl hl.1 rfl (lv_room (Nat.le_of_ble_eq_true rfl)) dX10_isTrip_4 ⟨Nat.le_of_ble_eq_true rfl, Nat.le_of_ble_eq_true rfl⟩) ?_
  refine W.eq (g2 := F0 Mi 7 ls [.int (m_in p0 1 120)]) rfl ?_
  refine lv_if_eq (tgt := 27) hx hb dX10_isTrip_7 (by decide) (fun c_7 => ?_) (fun c_7 => ?_)
  · refine lv_iconst (v := 0) hx hb dX10_isTrip_27 (by decide) ?_
    refine z_topi (y := m_trp p0 p1) (by rw [m_trp, if_pos c_7]) ?_
    exact W.zret (v := m_trp p0 p1) hx hb hr (z_bool (m_trp01 _ _)) z_endR (fun _ h => by cases h) dX10_isTrip_28 hlocks
  · refine lv_iload_n hx hb dX10_isTrip_10 rfl (lv_at hl 1 rfl) ?_
    refine lv_sipush (v := 5000) hx hb dX10_isTrip_11 (by decide) ?_
    refine lv_sipush (v := 11000) hx hb dX10_isTrip_14 (by decide) ?_
    refine z_rdv (va_runS (As := [.int p1, .int 5000, .int 11000]) (rest := []) ⟨hx, hb, hml, hown, hts⟩ (c_X10_in l E p1 5000 11000) (va_cwS 3 hts gX10_isTrip_X10_in rfl rfl rfl (by decide +kernel) ⟨Nat.le_of_ble_eq_true rfl, Nat.le_of_ble_eq_true rfl⟩) ⟨zPr.blind, z_prer hK zP_nil⟩ rfl rfl hl.1 rfl (lv_room (Nat.le_of_ble_eq_true rfl)) dX10_isTrip_17 ⟨Nat.le_of_ble_eq_true rfl, Nat.le_of_ble_eq_true rfl⟩) ?_
    refine W.eq (g2 := F0 Mi 20 ls [.int (m_in p1 5000 11000)]) rfl ?_
    refine lv_if_eq (tgt := 27) hx hb dX10_isTrip_20 (by decide) (fun c_20 => ?_) (fun c_20 => ?_)
    · refine lv_iconst (v := 0) hx hb dX10_isTrip_27 (by decide) ?_
      refine z_topi (y := m_trp p0 p1) (by rw [m_trp, if_neg c_7, if_pos c_20]) ?_
      exact W.zret (v := m_trp p0 p1) hx hb hr (z_bool (m_trp01 _ _)) z_endR (fun _ h => by cases h) dX10_isTrip_28 hlocks
    · refine lv_iconst (v := 1) hx hb dX10_isTrip_23 (by decide) ?_
      refine lv_goto (tgt := 28) hx hb dX10_isTrip_24 (by decide) ?_
      refine z_topi (y := m_trp p0 p1) (by rw [m_trp, if_neg c_7, if_neg c_20]) ?_
      exact W.zret (v := m_trp p0 p1) hx hb hr (z_bool (m_trp01 _ _)) z_endR (fun _ h => by cases h) dX10_isTrip_28 hlocks

set_option maxHeartbeats 4000000 in
set_option maxRecDepth 100000 in
theorem c_X10_isMark (l : Launch) (E : zE) (h0 k1 k2 k3 : Nat) (th sd ln at0 pt mi nu : Int32) (ha : Int64) (sv : Nat → Int32) (x : Int32) : zR l yX10_isMark wsX10_isMark ({ frames := 1, cells := 0, slots := 0, locals := 22 }) E [.ref h0, .int x] ([[(h0, .inr (9, [.int th, .ref k1, .int sd, .ref k2, .ref k3, .int ln, .int at0, .int pt, .int mi, .int nu, .long ha]))], [(k1, .inl (E.2 0, 1160, .inl sv))]] : List va_W).flatten (some (.int (m_in x 0 (sv 75 - 1)))) := by
  refine z_startr (cc := cX10_isMark) (maxL := 2) (ret := (some .boolean)) (by decide) rfl (Nat.le_of_ble_eq_true rfl) ?_
  intro Pg En s Mi below meth Cd hx hb hr hts hown hlocks hml hP hK ls hl
  have hl : lv_has ls 2 [(0, .ref h0), (1, .int x)] := hl
  have hi_X10 : ∀ w ∈ wsX100, w ∈ wsX10_isMark := by decide +kernel
  refine lv_iload_n hx hb dX10_isMark_0 rfl (lv_at hl 1 rfl) ?_
  refine lv_iconst (v := 0) hx hb dX10_isMark_1 (by decide) ?_
  refine lv_aload_n hx hb dX10_isMark_2 rfl (lv_at hl 0 rfl) ?_
  refine va_get (D := E.1) (ci := 9) (v := .ref k1) (C := RX10) (T := TX10) (N := 11) hx hb hts hi_X10 hown hK.1 hP 0 rfl rfl 1 (by decide) (hts (.fieldLink RX10 7 "AltimeterWatchModel" "s" "[I") (by decide +kernel)) (fun _ h9 => h9) rfl dX10_isMark_3 ?_
  refine lv_bipush (v := 75) hx hb dX10_isMark_6 (by decide) ?_
  refine z_iald (k := 75) hx hb hK.1 hP 1 rfl rfl (by decide) (by decide) dX10_isMark_8 ?_
  refine lv_iconst (v := 1) hx hb dX10_isMark_9 (by decide) ?_
  refine lv_isub hx hb dX10_isMark_10 ?_
  refine z_rdv (va_runS (As := [.int x, .int 0, .int ((sv 75) - 1)]) (rest := []) ⟨hx, hb, hml, hown, hts⟩ (c_X10_in l E x 0 ((sv 75) - 1)) (va_cwS 3 hts gX10_isMark_X10_in rfl rfl rfl (by decide +kernel) ⟨Nat.le_of_ble_eq_true rfl, Nat.le_of_ble_eq_true rfl⟩) ⟨zPr.blind, z_prer hK zP_nil⟩ rfl rfl hl.1 rfl (lv_room (Nat.le_of_ble_eq_true rfl)) dX10_isMark_11 ⟨Nat.le_of_ble_eq_true rfl, Nat.le_of_ble_eq_true rfl⟩) ?_
  refine W.eq (g2 := F0 Mi 14 ls [.int (m_in x 0 ((sv 75) - 1))]) rfl ?_
  exact W.zret (v := (m_in x 0 ((sv 75) - 1))) hx hb hr (z_bool (m_in01 _ _ _)) z_endR (fun _ h => by cases h) dX10_isMark_14 hlocks

set_option maxHeartbeats 4000000 in
set_option maxRecDepth 100000 in
theorem c_X10_pressure (l : Launch) (E : zE) (h0 k1 k2 k3 : Nat) (th sd ln at0 pt mi nu : Int32) (ha : Int64) (sv : Nat → Int32) : zM l yX10_pressure wsX10_pressure ({ frames := 1, cells := 0, slots := 0, locals := 21 }) E [.ref h0] ([[(h0, .inr (9, [.int th, .ref k1, .int sd, .ref k2, .ref k3, .int ln, .int at0, .int pt, .int mi, .int nu, .long ha]))], [(k1, .inl (E.2 0, 1160, .inl sv))]] : List va_W).flatten (some (.int (sv 0))) ([[(h0, .inr (9, [.int 0, .ref k1, .int sd, .ref k2, .ref k3, .int ln, .int at0, .int pt, .int mi, .int nu, .long ha]))], [(k1, .inl (E.2 0, 1160, .inl sv))]] : List va_W).flatten 0 0 := by
  refine z_start (cc := cX10_pressure) (maxL := 1) (ret := (some .int)) (by decide) rfl (Nat.le_of_ble_eq_true rfl) ?_
  intro Pg En s Mi below meth Cd A hx hb hr hts hown hlocks hin hml hA H hH hP hK hD hS ls hl
  have hl : lv_has ls 1 [(0, .ref h0)] := hl
  have hi_X10 : ∀ w ∈ wsX100, w ∈ wsX10_pressure := by decide +kernel
  refine lv_aload_n hx hb dX10_pressure_0 rfl (lv_at hl 0 rfl) ?_
  refine lv_aload_n hx hb dX10_pressure_1 rfl (lv_at hl 0 rfl) ?_
  refine va_get (D := E.1) (ci := 9) (v := .ref k1) (C := RX10) (T := TX10) (N := 11) hx hb hts hi_X10 hown hK.1 hP 0 rfl rfl 1 (by decide) (hts (.fieldLink RX10 7 "AltimeterWatchModel" "s" "[I") (by decide +kernel)) (fun _ h9 => h9) rfl dX10_pressure_2 ?_
  refine lv_iconst (v := 0) hx hb dX10_pressure_5 (by decide) ?_
  refine z_iald (k := 0) hx hb hK.1 hP 1 rfl rfl (by decide) (by decide) dX10_pressure_6 ?_
  have hPc : va_P E.1 vwCl ([[(h0, .inr (9, [.int th, .ref k1, .int sd, .ref k2, .ref k3, .int ln, .int at0, .int pt, .int mi, .int nu, .long ha]))]] : List va_W).flatten H := zf_sub hP [0] rfl
  have hDc : va_D A ([[(h0, .inr (9, [.int th, .ref k1, .int sd, .ref k2, .ref k3, .int ln, .int at0, .int pt, .int mi, .int nu, .long ha]))]] : List va_W).flatten := zf_subD hD [0] (by decide) rfl
  refine z_mut (Sc := [[(h0, .inr (9, [.int th, .ref k1, .int sd, .ref k2, .ref k3, .int ln, .int at0, .int pt, .int mi, .int nu, .long ha]))]]) (Sr := [[(k1, .inl (E.2 0, 1160, .inl sv))]]) (W1 := [[(h0, .inr (9, [.int 0, .ref k1, .int sd, .ref k2, .ref k3, .int ln, .int at0, .int pt, .int mi, .int nu, .long ha]))]]) (va_runV (As := [.int (sv 0)]) (rest := []) ⟨hx, hb, hml, hown, hts⟩ (c_X10_told l E h0 k1 k2 k3 th sd ln at0 pt mi nu ha (sv 0) H.size) (cwV 1 hts gX10_pressure_X10_told rfl rfl rfl (by decide +kernel) ⟨Nat.le_of_ble_eq_true rfl, Nat.le_of_ble_eq_true rfl⟩) ⟨zP.blind, va_recv hK.1 hPc (ci := 9) (q0 := 0) rfl rfl, z_pre hK hPc hDc⟩ rfl rfl hl.1 rfl (lv_room (Nat.le_of_ble_eq_true rfl)) dX10_pressure_7 ⟨Nat.le_of_ble_eq_true rfl, Nat.le_of_ble_eq_true rfl⟩) hP hD hS hA [0] [1] rfl rfl (by decide) (by decide) (fun H locs hP hD hS => ?_)
  have hP : va_P E.1 vwCl ([[(k1, .inl (E.2 0, 1160, .inl sv))], [(h0, .inr (9, [.int 0, .ref k1, .int sd, .ref k2, .ref k3, .int ln, .int at0, .int pt, .int mi, .int nu, .long ha]))]] : List va_W).flatten H := hP
  have hD : va_D A ([[(k1, .inl (E.2 0, 1160, .inl sv))], [(h0, .inr (9, [.int 0, .ref k1, .int sd, .ref k2, .ref k3, .int ln, .int at0, .int pt, .int mi, .int nu, .long ha]))]] : List va_W).flatten := hD
  refine W.eq (g2 := F0 Mi 10 ls [.int (sv 0)]) rfl ?_
  have hP : va_P E.1 vwCl ([[(h0, .inr (9, [.int 0, .ref k1, .int sd, .ref k2, .ref k3, .int ln, .int at0, .int pt, .int mi, .int nu, .long ha]))], [(k1, .inl (E.2 0, 1160, .inl sv))]] : List va_W).flatten H := zf_sub hP [1, 0] rfl
  have hD : va_D A ([[(h0, .inr (9, [.int 0, .ref k1, .int sd, .ref k2, .ref k3, .int ln, .int at0, .int pt, .int mi, .int nu, .long ha]))], [(k1, .inl (E.2 0, 1160, .inl sv))]] : List va_W).flatten := zf_subD hD [1, 0] (by decide) rfl
  exact W.iret (v := (sv 0)) hx hb hr (z_end hP hD hS rfl) hS.2.2 dX10_pressure_10 hlocks

set_option maxHeartbeats 4000000 in
set_option maxRecDepth 100000 in
theorem c_X10_minutes (l : Launch) (E : zE) (h0 k1 k2 k3 : Nat) (th sd ln at0 pt mi nu : Int32) (ha : Int64) (sv : Nat → Int32) : zM l yX10_minutes wsX10_minutes ({ frames := 1, cells := 0, slots := 0, locals := 21 }) E [.ref h0] ([[(h0, .inr (9, [.int th, .ref k1, .int sd, .ref k2, .ref k3, .int ln, .int at0, .int pt, .int mi, .int nu, .long ha]))], [(k1, .inl (E.2 0, 1160, .inl sv))]] : List va_W).flatten (some (.int (sv 4))) ([[(h0, .inr (9, [.int 0, .ref k1, .int sd, .ref k2, .ref k3, .int ln, .int at0, .int pt, .int mi, .int nu, .long ha]))], [(k1, .inl (E.2 0, 1160, .inl sv))]] : List va_W).flatten 0 0 := by
  refine z_start (cc := cX10_minutes) (maxL := 1) (ret := (some .int)) (by decide) rfl (Nat.le_of_ble_eq_true rfl) ?_
  intro Pg En s Mi below meth Cd A hx hb hr hts hown hlocks hin hml hA H hH hP hK hD hS ls hl
  have hl : lv_has ls 1 [(0, .ref h0)] := hl
  have hi_X10 : ∀ w ∈ wsX100, w ∈ wsX10_minutes := by decide +kernel
  refine lv_aload_n hx hb dX10_minutes_0 rfl (lv_at hl 0 rfl) ?_
  refine lv_aload_n hx hb dX10_minutes_1 rfl (lv_at hl 0 rfl) ?_
  refine va_get (D := E.1) (ci := 9) (v := .ref k1) (C := RX10) (T := TX10) (N := 11) hx hb hts hi_X10 hown hK.1 hP 0 rfl rfl 1 (by decide) (hts (.fieldLink RX10 7 "AltimeterWatchModel" "s" "[I") (by decide +kernel)) (fun _ h9 => h9) rfl dX10_minutes_2 ?_
  refine lv_iconst (v := 4) hx hb dX10_minutes_5 (by decide) ?_
  refine z_iald (k := 4) hx hb hK.1 hP 1 rfl rfl (by decide) (by decide) dX10_minutes_6 ?_
  have hPc : va_P E.1 vwCl ([[(h0, .inr (9, [.int th, .ref k1, .int sd, .ref k2, .ref k3, .int ln, .int at0, .int pt, .int mi, .int nu, .long ha]))]] : List va_W).flatten H := zf_sub hP [0] rfl
  have hDc : va_D A ([[(h0, .inr (9, [.int th, .ref k1, .int sd, .ref k2, .ref k3, .int ln, .int at0, .int pt, .int mi, .int nu, .long ha]))]] : List va_W).flatten := zf_subD hD [0] (by decide) rfl
  refine z_mut (Sc := [[(h0, .inr (9, [.int th, .ref k1, .int sd, .ref k2, .ref k3, .int ln, .int at0, .int pt, .int mi, .int nu, .long ha]))]]) (Sr := [[(k1, .inl (E.2 0, 1160, .inl sv))]]) (W1 := [[(h0, .inr (9, [.int 0, .ref k1, .int sd, .ref k2, .ref k3, .int ln, .int at0, .int pt, .int mi, .int nu, .long ha]))]]) (va_runV (As := [.int (sv 4)]) (rest := []) ⟨hx, hb, hml, hown, hts⟩ (c_X10_told l E h0 k1 k2 k3 th sd ln at0 pt mi nu ha (sv 4) H.size) (cwV 1 hts gX10_minutes_X10_told rfl rfl rfl (by decide +kernel) ⟨Nat.le_of_ble_eq_true rfl, Nat.le_of_ble_eq_true rfl⟩) ⟨zP.blind, va_recv hK.1 hPc (ci := 9) (q0 := 0) rfl rfl, z_pre hK hPc hDc⟩ rfl rfl hl.1 rfl (lv_room (Nat.le_of_ble_eq_true rfl)) dX10_minutes_7 ⟨Nat.le_of_ble_eq_true rfl, Nat.le_of_ble_eq_true rfl⟩) hP hD hS hA [0] [1] rfl rfl (by decide) (by decide) (fun H locs hP hD hS => ?_)
  have hP : va_P E.1 vwCl ([[(k1, .inl (E.2 0, 1160, .inl sv))], [(h0, .inr (9, [.int 0, .ref k1, .int sd, .ref k2, .ref k3, .int ln, .int at0, .int pt, .int mi, .int nu, .long ha]))]] : List va_W).flatten H := hP
  have hD : va_D A ([[(k1, .inl (E.2 0, 1160, .inl sv))], [(h0, .inr (9, [.int 0, .ref k1, .int sd, .ref k2, .ref k3, .int ln, .int at0, .int pt, .int mi, .int nu, .long ha]))]] : List va_W).flatten := hD
  refine W.eq (g2 := F0 Mi 10 ls [.int (sv 4)]) rfl ?_
  have hP : va_P E.1 vwCl ([[(h0, .inr (9, [.int 0, .ref k1, .int sd, .ref k2, .ref k3, .int ln, .int at0, .int pt, .int mi, .int nu, .long ha]))], [(k1, .inl (E.2 0, 1160, .inl sv))]] : List va_W).flatten H := zf_sub hP [1, 0] rfl
  have hD : va_D A ([[(h0, .inr (9, [.int 0, .ref k1, .int sd, .ref k2, .ref k3, .int ln, .int at0, .int pt, .int mi, .int nu, .long ha]))], [(k1, .inl (E.2 0, 1160, .inl sv))]] : List va_W).flatten := zf_subD hD [1, 0] (by decide) rfl
  exact W.iret (v := (sv 4)) hx hb hr (z_end hP hD hS rfl) hS.2.2 dX10_minutes_10 hlocks

set_option maxHeartbeats 4000000 in
set_option maxRecDepth 100000 in
theorem c_X10_sea (l : Launch) (E : zE) (h0 k1 k2 k3 : Nat) (th sd ln at0 pt mi nu : Int32) (ha : Int64) (sv : Nat → Int32) : zM l yX10_sea wsX10_sea ({ frames := 1, cells := 0, slots := 0, locals := 21 }) E [.ref h0] ([[(h0, .inr (9, [.int th, .ref k1, .int sd, .ref k2, .ref k3, .int ln, .int at0, .int pt, .int mi, .int nu, .long ha]))], [(k1, .inl (E.2 0, 1160, .inl sv))]] : List va_W).flatten (some (.int (sv 1))) ([[(h0, .inr (9, [.int 0, .ref k1, .int sd, .ref k2, .ref k3, .int ln, .int at0, .int pt, .int mi, .int nu, .long ha]))], [(k1, .inl (E.2 0, 1160, .inl sv))]] : List va_W).flatten 0 0 := by
  refine z_start (cc := cX10_sea) (maxL := 1) (ret := (some .int)) (by decide) rfl (Nat.le_of_ble_eq_true rfl) ?_
  intro Pg En s Mi below meth Cd A hx hb hr hts hown hlocks hin hml hA H hH hP hK hD hS ls hl
  have hl : lv_has ls 1 [(0, .ref h0)] := hl
  have hi_X10 : ∀ w ∈ wsX100, w ∈ wsX10_sea := by decide +kernel
  refine lv_aload_n hx hb dX10_sea_0 rfl (lv_at hl 0 rfl) ?_
  refine lv_aload_n hx hb dX10_sea_1 rfl (lv_at hl 0 rfl) ?_
  refine va_get (D := E.1) (ci := 9) (v := .ref k1) (C := RX10) (T := TX10) (N := 11) hx hb hts hi_X10 hown hK.1 hP 0 rfl rfl 1 (by decide) (hts (.fieldLink RX10 7 "AltimeterWatchModel" "s" "[I") (by decide +kernel)) (fun _ h9 => h9) rfl dX10_sea_2 ?_
  refine lv_iconst (v := 1) hx hb dX10_sea_5 (by decide) ?_
  refine z_iald (k := 1) hx hb hK.1 hP 1 rfl rfl (by decide) (by decide) dX10_sea_6 ?_
  have hPc : va_P E.1 vwCl ([[(h0, .inr (9, [.int th, .ref k1, .int sd, .ref k2, .ref k3, .int ln, .int at0, .int pt, .int mi, .int nu, .long ha]))]] : List va_W).flatten H := zf_sub hP [0] rfl
  have hDc : va_D A ([[(h0, .inr (9, [.int th, .ref k1, .int sd, .ref k2, .ref k3, .int ln, .int at0, .int pt, .int mi, .int nu, .long ha]))]] : List va_W).flatten := zf_subD hD [0] (by decide) rfl
  refine z_mut (Sc := [[(h0, .inr (9, [.int th, .ref k1, .int sd, .ref k2, .ref k3, .int ln, .int at0, .int pt, .int mi, .int nu, .long ha]))]]) (Sr := [[(k1, .inl (E.2 0, 1160, .inl sv))]]) (W1 := [[(h0, .inr (9, [.int 0, .ref k1, .int sd, .ref k2, .ref k3, .int ln, .int at0, .int pt, .int mi, .int nu, .long ha]))]]) (va_runV (As := [.int (sv 1)]) (rest := []) ⟨hx, hb, hml, hown, hts⟩ (c_X10_told l E h0 k1 k2 k3 th sd ln at0 pt mi nu ha (sv 1) H.size) (cwV 1 hts gX10_sea_X10_told rfl rfl rfl (by decide +kernel) ⟨Nat.le_of_ble_eq_true rfl, Nat.le_of_ble_eq_true rfl⟩) ⟨zP.blind, va_recv hK.1 hPc (ci := 9) (q0 := 0) rfl rfl, z_pre hK hPc hDc⟩ rfl rfl hl.1 rfl (lv_room (Nat.le_of_ble_eq_true rfl)) dX10_sea_7 ⟨Nat.le_of_ble_eq_true rfl, Nat.le_of_ble_eq_true rfl⟩) hP hD hS hA [0] [1] rfl rfl (by decide) (by decide) (fun H locs hP hD hS => ?_)
  have hP : va_P E.1 vwCl ([[(k1, .inl (E.2 0, 1160, .inl sv))], [(h0, .inr (9, [.int 0, .ref k1, .int sd, .ref k2, .ref k3, .int ln, .int at0, .int pt, .int mi, .int nu, .long ha]))]] : List va_W).flatten H := hP
  have hD : va_D A ([[(k1, .inl (E.2 0, 1160, .inl sv))], [(h0, .inr (9, [.int 0, .ref k1, .int sd, .ref k2, .ref k3, .int ln, .int at0, .int pt, .int mi, .int nu, .long ha]))]] : List va_W).flatten := hD
  refine W.eq (g2 := F0 Mi 10 ls [.int (sv 1)]) rfl ?_
  have hP : va_P E.1 vwCl ([[(h0, .inr (9, [.int 0, .ref k1, .int sd, .ref k2, .ref k3, .int ln, .int at0, .int pt, .int mi, .int nu, .long ha]))], [(k1, .inl (E.2 0, 1160, .inl sv))]] : List va_W).flatten H := zf_sub hP [1, 0] rfl
  have hD : va_D A ([[(h0, .inr (9, [.int 0, .ref k1, .int sd, .ref k2, .ref k3, .int ln, .int at0, .int pt, .int mi, .int nu, .long ha]))], [(k1, .inl (E.2 0, 1160, .inl sv))]] : List va_W).flatten := zf_subD hD [1, 0] (by decide) rfl
  exact W.iret (v := (sv 1)) hx hb hr (z_end hP hD hS rfl) hS.2.2 dX10_sea_10 hlocks

set_option maxHeartbeats 4000000 in
set_option maxRecDepth 100000 in
theorem c_X10_drift (l : Launch) (E : zE) (h0 k1 k2 k3 : Nat) (th sd ln at0 pt mi nu : Int32) (ha : Int64) (sv : Nat → Int32) : zM l yX10_drift wsX10_drift ({ frames := 1, cells := 0, slots := 0, locals := 21 }) E [.ref h0] ([[(h0, .inr (9, [.int th, .ref k1, .int sd, .ref k2, .ref k3, .int ln, .int at0, .int pt, .int mi, .int nu, .long ha]))], [(k1, .inl (E.2 0, 1160, .inl sv))]] : List va_W).flatten (some (.int (sv 5))) ([[(h0, .inr (9, [.int 0, .ref k1, .int sd, .ref k2, .ref k3, .int ln, .int at0, .int pt, .int mi, .int nu, .long ha]))], [(k1, .inl (E.2 0, 1160, .inl sv))]] : List va_W).flatten 0 0 := by
  refine z_start (cc := cX10_drift) (maxL := 1) (ret := (some .int)) (by decide) rfl (Nat.le_of_ble_eq_true rfl) ?_
  intro Pg En s Mi below meth Cd A hx hb hr hts hown hlocks hin hml hA H hH hP hK hD hS ls hl
  have hl : lv_has ls 1 [(0, .ref h0)] := hl
  have hi_X10 : ∀ w ∈ wsX100, w ∈ wsX10_drift := by decide +kernel
  refine lv_aload_n hx hb dX10_drift_0 rfl (lv_at hl 0 rfl) ?_
  refine lv_aload_n hx hb dX10_drift_1 rfl (lv_at hl 0 rfl) ?_
  refine va_get (D := E.1) (ci := 9) (v := .ref k1) (C := RX10) (T := TX10) (N := 11) hx hb hts hi_X10 hown hK.1 hP 0 rfl rfl 1 (by decide) (hts (.fieldLink RX10 7 "AltimeterWatchModel" "s" "[I") (by decide +kernel)) (fun _ h9 => h9) rfl dX10_drift_2 ?_
  refine lv_iconst (v := 5) hx hb dX10_drift_5 (by decide) ?_
  refine z_iald (k := 5) hx hb hK.1 hP 1 rfl rfl (by decide) (by decide) dX10_drift_6 ?_
  have hPc : va_P E.1 vwCl ([[(h0, .inr (9, [.int th, .ref k1, .int sd, .ref k2, .ref k3, .int ln, .int at0, .int pt, .int mi, .int nu, .long ha]))]] : List va_W).flatten H := zf_sub hP [0] rfl
  have hDc : va_D A ([[(h0, .inr (9, [.int th, .ref k1, .int sd, .ref k2, .ref k3, .int ln, .int at0, .int pt, .int mi, .int nu, .long ha]))]] : List va_W).flatten := zf_subD hD [0] (by decide) rfl
  refine z_mut (Sc := [[(h0, .inr (9, [.int th, .ref k1, .int sd, .ref k2, .ref k3, .int ln, .int at0, .int pt, .int mi, .int nu, .long ha]))]]) (Sr := [[(k1, .inl (E.2 0, 1160, .inl sv))]]) (W1 := [[(h0, .inr (9, [.int 0, .ref k1, .int sd, .ref k2, .ref k3, .int ln, .int at0, .int pt, .int mi, .int nu, .long ha]))]]) (va_runV (As := [.int (sv 5)]) (rest := []) ⟨hx, hb, hml, hown, hts⟩ (c_X10_told l E h0 k1 k2 k3 th sd ln at0 pt mi nu ha (sv 5) H.size) (cwV 1 hts gX10_drift_X10_told rfl rfl rfl (by decide +kernel) ⟨Nat.le_of_ble_eq_true rfl, Nat.le_of_ble_eq_true rfl⟩) ⟨zP.blind, va_recv hK.1 hPc (ci := 9) (q0 := 0) rfl rfl, z_pre hK hPc hDc⟩ rfl rfl hl.1 rfl (lv_room (Nat.le_of_ble_eq_true rfl)) dX10_drift_7 ⟨Nat.le_of_ble_eq_true rfl, Nat.le_of_ble_eq_true rfl⟩) hP hD hS hA [0] [1] rfl rfl (by decide) (by decide) (fun H locs hP hD hS => ?_)
  have hP : va_P E.1 vwCl ([[(k1, .inl (E.2 0, 1160, .inl sv))], [(h0, .inr (9, [.int 0, .ref k1, .int sd, .ref k2, .ref k3, .int ln, .int at0, .int pt, .int mi, .int nu, .long ha]))]] : List va_W).flatten H := hP
  have hD : va_D A ([[(k1, .inl (E.2 0, 1160, .inl sv))], [(h0, .inr (9, [.int 0, .ref k1, .int sd, .ref k2, .ref k3, .int ln, .int at0, .int pt, .int mi, .int nu, .long ha]))]] : List va_W).flatten := hD
  refine W.eq (g2 := F0 Mi 10 ls [.int (sv 5)]) rfl ?_
  have hP : va_P E.1 vwCl ([[(h0, .inr (9, [.int 0, .ref k1, .int sd, .ref k2, .ref k3, .int ln, .int at0, .int pt, .int mi, .int nu, .long ha]))], [(k1, .inl (E.2 0, 1160, .inl sv))]] : List va_W).flatten H := zf_sub hP [1, 0] rfl
  have hD : va_D A ([[(h0, .inr (9, [.int 0, .ref k1, .int sd, .ref k2, .ref k3, .int ln, .int at0, .int pt, .int mi, .int nu, .long ha]))], [(k1, .inl (E.2 0, 1160, .inl sv))]] : List va_W).flatten := zf_subD hD [1, 0] (by decide) rfl
  exact W.iret (v := (sv 5)) hx hb hr (z_end hP hD hS rfl) hS.2.2 dX10_drift_10 hlocks

set_option maxHeartbeats 4000000 in
set_option maxRecDepth 100000 in
theorem c_X10_calibrations (l : Launch) (E : zE) (h0 k1 k2 k3 : Nat) (th sd ln at0 pt mi nu : Int32) (ha : Int64) (sv : Nat → Int32) : zM l yX10_calibrations wsX10_calibrations ({ frames := 1, cells := 0, slots := 0, locals := 21 }) E [.ref h0] ([[(h0, .inr (9, [.int th, .ref k1, .int sd, .ref k2, .ref k3, .int ln, .int at0, .int pt, .int mi, .int nu, .long ha]))], [(k1, .inl (E.2 0, 1160, .inl sv))]] : List va_W).flatten (some (.int (sv 6))) ([[(h0, .inr (9, [.int 0, .ref k1, .int sd, .ref k2, .ref k3, .int ln, .int at0, .int pt, .int mi, .int nu, .long ha]))], [(k1, .inl (E.2 0, 1160, .inl sv))]] : List va_W).flatten 0 0 := by
  refine z_start (cc := cX10_calibrations) (maxL := 1) (ret := (some .int)) (by decide) rfl (Nat.le_of_ble_eq_true rfl) ?_
  intro Pg En s Mi below meth Cd A hx hb hr hts hown hlocks hin hml hA H hH hP hK hD hS ls hl
  have hl : lv_has ls 1 [(0, .ref h0)] := hl
  have hi_X10 : ∀ w ∈ wsX100, w ∈ wsX10_calibrations := by decide +kernel
  refine lv_aload_n hx hb dX10_calibrations_0 rfl (lv_at hl 0 rfl) ?_
  refine lv_aload_n hx hb dX10_calibrations_1 rfl (lv_at hl 0 rfl) ?_
  refine va_get (D := E.1) (ci := 9) (v := .ref k1) (C := RX10) (T := TX10) (N := 11) hx hb hts hi_X10 hown hK.1 hP 0 rfl rfl 1 (by decide) (hts (.fieldLink RX10 7 "AltimeterWatchModel" "s" "[I") (by decide +kernel)) (fun _ h9 => h9) rfl dX10_calibrations_2 ?_
  refine lv_bipush (v := 6) hx hb dX10_calibrations_5 (by decide) ?_
  refine z_iald (k := 6) hx hb hK.1 hP 1 rfl rfl (by decide) (by decide) dX10_calibrations_7 ?_
  have hPc : va_P E.1 vwCl ([[(h0, .inr (9, [.int th, .ref k1, .int sd, .ref k2, .ref k3, .int ln, .int at0, .int pt, .int mi, .int nu, .long ha]))]] : List va_W).flatten H := zf_sub hP [0] rfl
  have hDc : va_D A ([[(h0, .inr (9, [.int th, .ref k1, .int sd, .ref k2, .ref k3, .int ln, .int at0, .int pt, .int mi, .int nu, .long ha]))]] : List va_W).flatten := zf_subD hD [0] (by decide) rfl
  refine z_mut (Sc := [[(h0, .inr (9, [.int th, .ref k1, .int sd, .ref k2, .ref k3, .int ln, .int at0, .int pt, .int mi, .int nu, .long ha]))]]) (Sr := [[(k1, .inl (E.2 0, 1160, .inl sv))]]) (W1 := [[(h0, .inr (9, [.int 0, .ref k1, .int sd, .ref k2, .ref k3, .int ln, .int at0, .int pt, .int mi, .int nu, .long ha]))]]) (va_runV (As := [.int (sv 6)]) (rest := []) ⟨hx, hb, hml, hown, hts⟩ (c_X10_told l E h0 k1 k2 k3 th sd ln at0 pt mi nu ha (sv 6) H.size) (cwV 1 hts gX10_calibrations_X10_told rfl rfl rfl (by decide +kernel) ⟨Nat.le_of_ble_eq_true rfl, Nat.le_of_ble_eq_true rfl⟩) ⟨zP.blind, va_recv hK.1 hPc (ci := 9) (q0 := 0) rfl rfl, z_pre hK hPc hDc⟩ rfl rfl hl.1 rfl (lv_room (Nat.le_of_ble_eq_true rfl)) dX10_calibrations_8 ⟨Nat.le_of_ble_eq_true rfl, Nat.le_of_ble_eq_true rfl⟩) hP hD hS hA [0] [1] rfl rfl (by decide) (by decide) (fun H locs hP hD hS => ?_)
  have hP : va_P E.1 vwCl ([[(k1, .inl (E.2 0, 1160, .inl sv))], [(h0, .inr (9, [.int 0, .ref k1, .int sd, .ref k2, .ref k3, .int ln, .int at0, .int pt, .int mi, .int nu, .long ha]))]] : List va_W).flatten H := hP
  have hD : va_D A ([[(k1, .inl (E.2 0, 1160, .inl sv))], [(h0, .inr (9, [.int 0, .ref k1, .int sd, .ref k2, .ref k3, .int ln, .int at0, .int pt, .int mi, .int nu, .long ha]))]] : List va_W).flatten := hD
  refine W.eq (g2 := F0 Mi 11 ls [.int (sv 6)]) rfl ?_
  have hP : va_P E.1 vwCl ([[(h0, .inr (9, [.int 0, .ref k1, .int sd, .ref k2, .ref k3, .int ln, .int at0, .int pt, .int mi, .int nu, .long ha]))], [(k1, .inl (E.2 0, 1160, .inl sv))]] : List va_W).flatten H := zf_sub hP [1, 0] rfl
  have hD : va_D A ([[(h0, .inr (9, [.int 0, .ref k1, .int sd, .ref k2, .ref k3, .int ln, .int at0, .int pt, .int mi, .int nu, .long ha]))], [(k1, .inl (E.2 0, 1160, .inl sv))]] : List va_W).flatten := zf_subD hD [1, 0] (by decide) rfl
  exact W.iret (v := (sv 6)) hx hb hr (z_end hP hD hS rfl) hS.2.2 dX10_calibrations_11 hlocks

set_option maxHeartbeats 4000000 in
set_option maxRecDepth 100000 in
theorem c_X10_ascent (l : Launch) (E : zE) (h0 k1 k2 k3 : Nat) (th sd ln at0 pt mi nu : Int32) (ha : Int64) (sv : Nat → Int32) : zM l yX10_ascent wsX10_ascent ({ frames := 1, cells := 0, slots := 0, locals := 21 }) E [.ref h0] ([[(h0, .inr (9, [.int th, .ref k1, .int sd, .ref k2, .ref k3, .int ln, .int at0, .int pt, .int mi, .int nu, .long ha]))], [(k1, .inl (E.2 0, 1160, .inl sv))]] : List va_W).flatten (some (.int (sv 7))) ([[(h0, .inr (9, [.int 0, .ref k1, .int sd, .ref k2, .ref k3, .int ln, .int at0, .int pt, .int mi, .int nu, .long ha]))], [(k1, .inl (E.2 0, 1160, .inl sv))]] : List va_W).flatten 0 0 := by
  refine z_start (cc := cX10_ascent) (maxL := 1) (ret := (some .int)) (by decide) rfl (Nat.le_of_ble_eq_true rfl) ?_
  intro Pg En s Mi below meth Cd A hx hb hr hts hown hlocks hin hml hA H hH hP hK hD hS ls hl
  have hl : lv_has ls 1 [(0, .ref h0)] := hl
  have hi_X10 : ∀ w ∈ wsX100, w ∈ wsX10_ascent := by decide +kernel
  refine lv_aload_n hx hb dX10_ascent_0 rfl (lv_at hl 0 rfl) ?_
  refine lv_aload_n hx hb dX10_ascent_1 rfl (lv_at hl 0 rfl) ?_
  refine va_get (D := E.1) (ci := 9) (v := .ref k1) (C := RX10) (T := TX10) (N := 11) hx hb hts hi_X10 hown hK.1 hP 0 rfl rfl 1 (by decide) (hts (.fieldLink RX10 7 "AltimeterWatchModel" "s" "[I") (by decide +kernel)) (fun _ h9 => h9) rfl dX10_ascent_2 ?_
  refine lv_bipush (v := 7) hx hb dX10_ascent_5 (by decide) ?_
  refine z_iald (k := 7) hx hb hK.1 hP 1 rfl rfl (by decide) (by decide) dX10_ascent_7 ?_
  have hPc : va_P E.1 vwCl ([[(h0, .inr (9, [.int th, .ref k1, .int sd, .ref k2, .ref k3, .int ln, .int at0, .int pt, .int mi, .int nu, .long ha]))]] : List va_W).flatten H := zf_sub hP [0] rfl
  have hDc : va_D A ([[(h0, .inr (9, [.int th, .ref k1, .int sd, .ref k2, .ref k3, .int ln, .int at0, .int pt, .int mi, .int nu, .long ha]))]] : List va_W).flatten := zf_subD hD [0] (by decide) rfl
  refine z_mut (Sc := [[(h0, .inr (9, [.int th, .ref k1, .int sd, .ref k2, .ref k3, .int ln, .int at0, .int pt, .int mi, .int nu, .long ha]))]]) (Sr := [[(k1, .inl (E.2 0, 1160, .inl sv))]]) (W1 := [[(h0, .inr (9, [.int 0, .ref k1, .int sd, .ref k2, .ref k3, .int ln, .int at0, .int pt, .int mi, .int nu, .long ha]))]]) (va_runV (As := [.int (sv 7)]) (rest := []) ⟨hx, hb, hml, hown, hts⟩ (c_X10_told l E h0 k1 k2 k3 th sd ln at0 pt mi nu ha (sv 7) H.size) (cwV 1 hts gX10_ascent_X10_told rfl rfl rfl (by decide +kernel) ⟨Nat.le_of_ble_eq_true rfl, Nat.le_of_ble_eq_true rfl⟩) ⟨zP.blind, va_recv hK.1 hPc (ci := 9) (q0 := 0) rfl rfl, z_pre hK hPc hDc⟩ rfl rfl hl.1 rfl (lv_room (Nat.le_of_ble_eq_true rfl)) dX10_ascent_8 ⟨Nat.le_of_ble_eq_true rfl, Nat.le_of_ble_eq_true rfl⟩) hP hD hS hA [0] [1] rfl rfl (by decide) (by decide) (fun H locs hP hD hS => ?_)
  have hP : va_P E.1 vwCl ([[(k1, .inl (E.2 0, 1160, .inl sv))], [(h0, .inr (9, [.int 0, .ref k1, .int sd, .ref k2, .ref k3, .int ln, .int at0, .int pt, .int mi, .int nu, .long ha]))]] : List va_W).flatten H := hP
  have hD : va_D A ([[(k1, .inl (E.2 0, 1160, .inl sv))], [(h0, .inr (9, [.int 0, .ref k1, .int sd, .ref k2, .ref k3, .int ln, .int at0, .int pt, .int mi, .int nu, .long ha]))]] : List va_W).flatten := hD
  refine W.eq (g2 := F0 Mi 11 ls [.int (sv 7)]) rfl ?_
  have hP : va_P E.1 vwCl ([[(h0, .inr (9, [.int 0, .ref k1, .int sd, .ref k2, .ref k3, .int ln, .int at0, .int pt, .int mi, .int nu, .long ha]))], [(k1, .inl (E.2 0, 1160, .inl sv))]] : List va_W).flatten H := zf_sub hP [1, 0] rfl
  have hD : va_D A ([[(h0, .inr (9, [.int 0, .ref k1, .int sd, .ref k2, .ref k3, .int ln, .int at0, .int pt, .int mi, .int nu, .long ha]))], [(k1, .inl (E.2 0, 1160, .inl sv))]] : List va_W).flatten := zf_subD hD [1, 0] (by decide) rfl
  exact W.iret (v := (sv 7)) hx hb hr (z_end hP hD hS rfl) hS.2.2 dX10_ascent_11 hlocks

set_option maxHeartbeats 4000000 in
set_option maxRecDepth 100000 in
theorem c_X10_descent (l : Launch) (E : zE) (h0 k1 k2 k3 : Nat) (th sd ln at0 pt mi nu : Int32) (ha : Int64) (sv : Nat → Int32) : zM l yX10_descent wsX10_descent ({ frames := 1, cells := 0, slots := 0, locals := 21 }) E [.ref h0] ([[(h0, .inr (9, [.int th, .ref k1, .int sd, .ref k2, .ref k3, .int ln, .int at0, .int pt, .int mi, .int nu, .long ha]))], [(k1, .inl (E.2 0, 1160, .inl sv))]] : List va_W).flatten (some (.int (sv 8))) ([[(h0, .inr (9, [.int 0, .ref k1, .int sd, .ref k2, .ref k3, .int ln, .int at0, .int pt, .int mi, .int nu, .long ha]))], [(k1, .inl (E.2 0, 1160, .inl sv))]] : List va_W).flatten 0 0 := by
  refine z_start (cc := cX10_descent) (maxL := 1) (ret := (some .int)) (by decide) rfl (Nat.le_of_ble_eq_true rfl) ?_
  intro Pg En s Mi below meth Cd A hx hb hr hts hown hlocks hin hml hA H hH hP hK hD hS ls hl
  have hl : lv_has ls 1 [(0, .ref h0)] := hl
  have hi_X10 : ∀ w ∈ wsX100, w ∈ wsX10_descent := by decide +kernel
  refine lv_aload_n hx hb dX10_descent_0 rfl (lv_at hl 0 rfl) ?_
  refine lv_aload_n hx hb dX10_descent_1 rfl (lv_at hl 0 rfl) ?_
  refine va_get (D := E.1) (ci := 9) (v := .ref k1) (C := RX10) (T := TX10) (N := 11) hx hb hts hi_X10 hown hK.1 hP 0 rfl rfl 1 (by decide) (hts (.fieldLink RX10 7 "AltimeterWatchModel" "s" "[I") (by decide +kernel)) (fun _ h9 => h9) rfl dX10_descent_2 ?_
  refine lv_bipush (v := 8) hx hb dX10_descent_5 (by decide) ?_
  refine z_iald (k := 8) hx hb hK.1 hP 1 rfl rfl (by decide) (by decide) dX10_descent_7 ?_
  have hPc : va_P E.1 vwCl ([[(h0, .inr (9, [.int th, .ref k1, .int sd, .ref k2, .ref k3, .int ln, .int at0, .int pt, .int mi, .int nu, .long ha]))]] : List va_W).flatten H := zf_sub hP [0] rfl
  have hDc : va_D A ([[(h0, .inr (9, [.int th, .ref k1, .int sd, .ref k2, .ref k3, .int ln, .int at0, .int pt, .int mi, .int nu, .long ha]))]] : List va_W).flatten := zf_subD hD [0] (by decide) rfl
  refine z_mut (Sc := [[(h0, .inr (9, [.int th, .ref k1, .int sd, .ref k2, .ref k3, .int ln, .int at0, .int pt, .int mi, .int nu, .long ha]))]]) (Sr := [[(k1, .inl (E.2 0, 1160, .inl sv))]]) (W1 := [[(h0, .inr (9, [.int 0, .ref k1, .int sd, .ref k2, .ref k3, .int ln, .int at0, .int pt, .int mi, .int nu, .long ha]))]]) (va_runV (As := [.int (sv 8)]) (rest := []) ⟨hx, hb, hml, hown, hts⟩ (c_X10_told l E h0 k1 k2 k3 th sd ln at0 pt mi nu ha (sv 8) H.size) (cwV 1 hts gX10_descent_X10_told rfl rfl rfl (by decide +kernel) ⟨Nat.le_of_ble_eq_true rfl, Nat.le_of_ble_eq_true rfl⟩) ⟨zP.blind, va_recv hK.1 hPc (ci := 9) (q0 := 0) rfl rfl, z_pre hK hPc hDc⟩ rfl rfl hl.1 rfl (lv_room (Nat.le_of_ble_eq_true rfl)) dX10_descent_8 ⟨Nat.le_of_ble_eq_true rfl, Nat.le_of_ble_eq_true rfl⟩) hP hD hS hA [0] [1] rfl rfl (by decide) (by decide) (fun H locs hP hD hS => ?_)
  have hP : va_P E.1 vwCl ([[(k1, .inl (E.2 0, 1160, .inl sv))], [(h0, .inr (9, [.int 0, .ref k1, .int sd, .ref k2, .ref k3, .int ln, .int at0, .int pt, .int mi, .int nu, .long ha]))]] : List va_W).flatten H := hP
  have hD : va_D A ([[(k1, .inl (E.2 0, 1160, .inl sv))], [(h0, .inr (9, [.int 0, .ref k1, .int sd, .ref k2, .ref k3, .int ln, .int at0, .int pt, .int mi, .int nu, .long ha]))]] : List va_W).flatten := hD
  refine W.eq (g2 := F0 Mi 11 ls [.int (sv 8)]) rfl ?_
  have hP : va_P E.1 vwCl ([[(h0, .inr (9, [.int 0, .ref k1, .int sd, .ref k2, .ref k3, .int ln, .int at0, .int pt, .int mi, .int nu, .long ha]))], [(k1, .inl (E.2 0, 1160, .inl sv))]] : List va_W).flatten H := zf_sub hP [1, 0] rfl
  have hD : va_D A ([[(h0, .inr (9, [.int 0, .ref k1, .int sd, .ref k2, .ref k3, .int ln, .int at0, .int pt, .int mi, .int nu, .long ha]))], [(k1, .inl (E.2 0, 1160, .inl sv))]] : List va_W).flatten := zf_subD hD [1, 0] (by decide) rfl
  exact W.iret (v := (sv 8)) hx hb hr (z_end hP hD hS rfl) hS.2.2 dX10_descent_11 hlocks

set_option maxHeartbeats 4000000 in
set_option maxRecDepth 100000 in
theorem c_X10_base (l : Launch) (E : zE) (h0 k1 k2 k3 : Nat) (th sd ln at0 pt mi nu : Int32) (ha : Int64) (sv : Nat → Int32) : zM l yX10_base wsX10_base ({ frames := 1, cells := 0, slots := 0, locals := 21 }) E [.ref h0] ([[(h0, .inr (9, [.int th, .ref k1, .int sd, .ref k2, .ref k3, .int ln, .int at0, .int pt, .int mi, .int nu, .long ha]))], [(k1, .inl (E.2 0, 1160, .inl sv))]] : List va_W).flatten (some (.int (sv 9))) ([[(h0, .inr (9, [.int 0, .ref k1, .int sd, .ref k2, .ref k3, .int ln, .int at0, .int pt, .int mi, .int nu, .long ha]))], [(k1, .inl (E.2 0, 1160, .inl sv))]] : List va_W).flatten 0 0 := by
  refine z_start (cc := cX10_base) (maxL := 1) (ret := (some .int)) (by decide) rfl (Nat.le_of_ble_eq_true rfl) ?_
  intro Pg En s Mi below meth Cd A hx hb hr hts hown hlocks hin hml hA H hH hP hK hD hS ls hl
  have hl : lv_has ls 1 [(0, .ref h0)] := hl
  have hi_X10 : ∀ w ∈ wsX100, w ∈ wsX10_base := by decide +kernel
  refine lv_aload_n hx hb dX10_base_0 rfl (lv_at hl 0 rfl) ?_
  refine lv_aload_n hx hb dX10_base_1 rfl (lv_at hl 0 rfl) ?_
  refine va_get (D := E.1) (ci := 9) (v := .ref k1) (C := RX10) (T := TX10) (N := 11) hx hb hts hi_X10 hown hK.1 hP 0 rfl rfl 1 (by decide) (hts (.fieldLink RX10 7 "AltimeterWatchModel" "s" "[I") (by decide +kernel)) (fun _ h9 => h9) rfl dX10_base_2 ?_
  refine lv_bipush (v := 9) hx hb dX10_base_5 (by decide) ?_
  refine z_iald (k := 9) hx hb hK.1 hP 1 rfl rfl (by decide) (by decide) dX10_base_7 ?_
  have hPc : va_P E.1 vwCl ([[(h0, .inr (9, [.int th, .ref k1, .int sd, .ref k2, .ref k3, .int ln, .int at0, .int pt, .int mi, .int nu, .long ha]))]] : List va_W).flatten H := zf_sub hP [0] rfl
  have hDc : va_D A ([[(h0, .inr (9, [.int th, .ref k1, .int sd, .ref k2, .ref k3, .int ln, .int at0, .int pt, .int mi, .int nu, .long ha]))]] : List va_W).flatten := zf_subD hD [0] (by decide) rfl
  refine z_mut (Sc := [[(h0, .inr (9, [.int th, .ref k1, .int sd, .ref k2, .ref k3, .int ln, .int at0, .int pt, .int mi, .int nu, .long ha]))]]) (Sr := [[(k1, .inl (E.2 0, 1160, .inl sv))]]) (W1 := [[(h0, .inr (9, [.int 0, .ref k1, .int sd, .ref k2, .ref k3, .int ln, .int at0, .int pt, .int mi, .int nu, .long ha]))]]) (va_runV (As := [.int (sv 9)]) (rest := []) ⟨hx, hb, hml, hown, hts⟩ (c_X10_told l E h0 k1 k2 k3 th sd ln at0 pt mi nu ha (sv 9) H.size) (cwV 1 hts gX10_base_X10_told rfl rfl rfl (by decide +kernel) ⟨Nat.le_of_ble_eq_true rfl, Nat.le_of_ble_eq_true rfl⟩) ⟨zP.blind, va_recv hK.1 hPc (ci := 9) (q0 := 0) rfl rfl, z_pre hK hPc hDc⟩ rfl rfl hl.1 rfl (lv_room (Nat.le_of_ble_eq_true rfl)) dX10_base_8 ⟨Nat.le_of_ble_eq_true rfl, Nat.le_of_ble_eq_true rfl⟩) hP hD hS hA [0] [1] rfl rfl (by decide) (by decide) (fun H locs hP hD hS => ?_)
  have hP : va_P E.1 vwCl ([[(k1, .inl (E.2 0, 1160, .inl sv))], [(h0, .inr (9, [.int 0, .ref k1, .int sd, .ref k2, .ref k3, .int ln, .int at0, .int pt, .int mi, .int nu, .long ha]))]] : List va_W).flatten H := hP
  have hD : va_D A ([[(k1, .inl (E.2 0, 1160, .inl sv))], [(h0, .inr (9, [.int 0, .ref k1, .int sd, .ref k2, .ref k3, .int ln, .int at0, .int pt, .int mi, .int nu, .long ha]))]] : List va_W).flatten := hD
  refine W.eq (g2 := F0 Mi 11 ls [.int (sv 9)]) rfl ?_
  have hP : va_P E.1 vwCl ([[(h0, .inr (9, [.int 0, .ref k1, .int sd, .ref k2, .ref k3, .int ln, .int at0, .int pt, .int mi, .int nu, .long ha]))], [(k1, .inl (E.2 0, 1160, .inl sv))]] : List va_W).flatten H := zf_sub hP [1, 0] rfl
  have hD : va_D A ([[(h0, .inr (9, [.int 0, .ref k1, .int sd, .ref k2, .ref k3, .int ln, .int at0, .int pt, .int mi, .int nu, .long ha]))], [(k1, .inl (E.2 0, 1160, .inl sv))]] : List va_W).flatten := zf_subD hD [1, 0] (by decide) rfl
  exact W.iret (v := (sv 9)) hx hb hr (z_end hP hD hS rfl) hS.2.2 dX10_base_11 hlocks

set_option maxHeartbeats 4000000 in
set_option maxRecDepth 100000 in
theorem c_X10_marks (l : Launch) (E : zE) (h0 k1 k2 k3 : Nat) (th sd ln at0 pt mi nu : Int32) (ha : Int64) (sv : Nat → Int32) : zM l yX10_marks wsX10_marks ({ frames := 1, cells := 0, slots := 0, locals := 21 }) E [.ref h0] ([[(h0, .inr (9, [.int th, .ref k1, .int sd, .ref k2, .ref k3, .int ln, .int at0, .int pt, .int mi, .int nu, .long ha]))], [(k1, .inl (E.2 0, 1160, .inl sv))]] : List va_W).flatten (some (.int (sv 75))) ([[(h0, .inr (9, [.int 0, .ref k1, .int sd, .ref k2, .ref k3, .int ln, .int at0, .int pt, .int mi, .int nu, .long ha]))], [(k1, .inl (E.2 0, 1160, .inl sv))]] : List va_W).flatten 0 0 := by
  refine z_start (cc := cX10_marks) (maxL := 1) (ret := (some .int)) (by decide) rfl (Nat.le_of_ble_eq_true rfl) ?_
  intro Pg En s Mi below meth Cd A hx hb hr hts hown hlocks hin hml hA H hH hP hK hD hS ls hl
  have hl : lv_has ls 1 [(0, .ref h0)] := hl
  have hi_X10 : ∀ w ∈ wsX100, w ∈ wsX10_marks := by decide +kernel
  refine lv_aload_n hx hb dX10_marks_0 rfl (lv_at hl 0 rfl) ?_
  refine lv_aload_n hx hb dX10_marks_1 rfl (lv_at hl 0 rfl) ?_
  refine va_get (D := E.1) (ci := 9) (v := .ref k1) (C := RX10) (T := TX10) (N := 11) hx hb hts hi_X10 hown hK.1 hP 0 rfl rfl 1 (by decide) (hts (.fieldLink RX10 7 "AltimeterWatchModel" "s" "[I") (by decide +kernel)) (fun _ h9 => h9) rfl dX10_marks_2 ?_
  refine lv_bipush (v := 75) hx hb dX10_marks_5 (by decide) ?_
  refine z_iald (k := 75) hx hb hK.1 hP 1 rfl rfl (by decide) (by decide) dX10_marks_7 ?_
  have hPc : va_P E.1 vwCl ([[(h0, .inr (9, [.int th, .ref k1, .int sd, .ref k2, .ref k3, .int ln, .int at0, .int pt, .int mi, .int nu, .long ha]))]] : List va_W).flatten H := zf_sub hP [0] rfl
  have hDc : va_D A ([[(h0, .inr (9, [.int th, .ref k1, .int sd, .ref k2, .ref k3, .int ln, .int at0, .int pt, .int mi, .int nu, .long ha]))]] : List va_W).flatten := zf_subD hD [0] (by decide) rfl
  refine z_mut (Sc := [[(h0, .inr (9, [.int th, .ref k1, .int sd, .ref k2, .ref k3, .int ln, .int at0, .int pt, .int mi, .int nu, .long ha]))]]) (Sr := [[(k1, .inl (E.2 0, 1160, .inl sv))]]) (W1 := [[(h0, .inr (9, [.int 0, .ref k1, .int sd, .ref k2, .ref k3, .int ln, .int at0, .int pt, .int mi, .int nu, .long ha]))]]) (va_runV (As := [.int (sv 75)]) (rest := []) ⟨hx, hb, hml, hown, hts⟩ (c_X10_told l E h0 k1 k2 k3 th sd ln at0 pt mi nu ha (sv 75) H.size) (cwV 1 hts gX10_marks_X10_told rfl rfl rfl (by decide +kernel) ⟨Nat.le_of_ble_eq_true rfl, Nat.le_of_ble_eq_true rfl⟩) ⟨zP.blind, va_recv hK.1 hPc (ci := 9) (q0 := 0) rfl rfl, z_pre hK hPc hDc⟩ rfl rfl hl.1 rfl (lv_room (Nat.le_of_ble_eq_true rfl)) dX10_marks_8 ⟨Nat.le_of_ble_eq_true rfl, Nat.le_of_ble_eq_true rfl⟩) hP hD hS hA [0] [1] rfl rfl (by decide) (by decide) (fun H locs hP hD hS => ?_)
  have hP : va_P E.1 vwCl ([[(k1, .inl (E.2 0, 1160, .inl sv))], [(h0, .inr (9, [.int 0, .ref k1, .int sd, .ref k2, .ref k3, .int ln, .int at0, .int pt, .int mi, .int nu, .long ha]))]] : List va_W).flatten H := hP
  have hD : va_D A ([[(k1, .inl (E.2 0, 1160, .inl sv))], [(h0, .inr (9, [.int 0, .ref k1, .int sd, .ref k2, .ref k3, .int ln, .int at0, .int pt, .int mi, .int nu, .long ha]))]] : List va_W).flatten := hD
  refine W.eq (g2 := F0 Mi 11 ls [.int (sv 75)]) rfl ?_
  have hP : va_P E.1 vwCl ([[(h0, .inr (9, [.int 0, .ref k1, .int sd, .ref k2, .ref k3, .int ln, .int at0, .int pt, .int mi, .int nu, .long ha]))], [(k1, .inl (E.2 0, 1160, .inl sv))]] : List va_W).flatten H := zf_sub hP [1, 0] rfl
  have hD : va_D A ([[(h0, .inr (9, [.int 0, .ref k1, .int sd, .ref k2, .ref k3, .int ln, .int at0, .int pt, .int mi, .int nu, .long ha]))], [(k1, .inl (E.2 0, 1160, .inl sv))]] : List va_W).flatten := zf_subD hD [1, 0] (by decide) rfl
  exact W.iret (v := (sv 75)) hx hb hr (z_end hP hD hS rfl) hS.2.2 dX10_marks_11 hlocks

set_option maxHeartbeats 4000000 in
set_option maxRecDepth 100000 in
theorem c_X10_logged (l : Launch) (E : zE) (h0 k1 k2 k3 : Nat) (th sd ln at0 pt mi nu : Int32) (ha : Int64) (sv : Nat → Int32) : zM l yX10_logged wsX10_logged ({ frames := 1, cells := 0, slots := 0, locals := 21 }) E [.ref h0] ([[(h0, .inr (9, [.int th, .ref k1, .int sd, .ref k2, .ref k3, .int ln, .int at0, .int pt, .int mi, .int nu, .long ha]))], [(k1, .inl (E.2 0, 1160, .inl sv))]] : List va_W).flatten (some (.int (sv 14))) ([[(h0, .inr (9, [.int 0, .ref k1, .int sd, .ref k2, .ref k3, .int ln, .int at0, .int pt, .int mi, .int nu, .long ha]))], [(k1, .inl (E.2 0, 1160, .inl sv))]] : List va_W).flatten 0 0 := by
  refine z_start (cc := cX10_logged) (maxL := 1) (ret := (some .int)) (by decide) rfl (Nat.le_of_ble_eq_true rfl) ?_
  intro Pg En s Mi below meth Cd A hx hb hr hts hown hlocks hin hml hA H hH hP hK hD hS ls hl
  have hl : lv_has ls 1 [(0, .ref h0)] := hl
  have hi_X10 : ∀ w ∈ wsX100, w ∈ wsX10_logged := by decide +kernel
  refine lv_aload_n hx hb dX10_logged_0 rfl (lv_at hl 0 rfl) ?_
  refine lv_aload_n hx hb dX10_logged_1 rfl (lv_at hl 0 rfl) ?_
  refine va_get (D := E.1) (ci := 9) (v := .ref k1) (C := RX10) (T := TX10) (N := 11) hx hb hts hi_X10 hown hK.1 hP 0 rfl rfl 1 (by decide) (hts (.fieldLink RX10 7 "AltimeterWatchModel" "s" "[I") (by decide +kernel)) (fun _ h9 => h9) rfl dX10_logged_2 ?_
  refine lv_bipush (v := 14) hx hb dX10_logged_5 (by decide) ?_
  refine z_iald (k := 14) hx hb hK.1 hP 1 rfl rfl (by decide) (by decide) dX10_logged_7 ?_
  have hPc : va_P E.1 vwCl ([[(h0, .inr (9, [.int th, .ref k1, .int sd, .ref k2, .ref k3, .int ln, .int at0, .int pt, .int mi, .int nu, .long ha]))]] : List va_W).flatten H := zf_sub hP [0] rfl
  have hDc : va_D A ([[(h0, .inr (9, [.int th, .ref k1, .int sd, .ref k2, .ref k3, .int ln, .int at0, .int pt, .int mi, .int nu, .long ha]))]] : List va_W).flatten := zf_subD hD [0] (by decide) rfl
  refine z_mut (Sc := [[(h0, .inr (9, [.int th, .ref k1, .int sd, .ref k2, .ref k3, .int ln, .int at0, .int pt, .int mi, .int nu, .long ha]))]]) (Sr := [[(k1, .inl (E.2 0, 1160, .inl sv))]]) (W1 := [[(h0, .inr (9, [.int 0, .ref k1, .int sd, .ref k2, .ref k3, .int ln, .int at0, .int pt, .int mi, .int nu, .long ha]))]]) (va_runV (As := [.int (sv 14)]) (rest := []) ⟨hx, hb, hml, hown, hts⟩ (c_X10_told l E h0 k1 k2 k3 th sd ln at0 pt mi nu ha (sv 14) H.size) (cwV 1 hts gX10_logged_X10_told rfl rfl rfl (by decide +kernel) ⟨Nat.le_of_ble_eq_true rfl, Nat.le_of_ble_eq_true rfl⟩) ⟨zP.blind, va_recv hK.1 hPc (ci := 9) (q0 := 0) rfl rfl, z_pre hK hPc hDc⟩ rfl rfl hl.1 rfl (lv_room (Nat.le_of_ble_eq_true rfl)) dX10_logged_8 ⟨Nat.le_of_ble_eq_true rfl, Nat.le_of_ble_eq_true rfl⟩) hP hD hS hA [0] [1] rfl rfl (by decide) (by decide) (fun H locs hP hD hS => ?_)
  have hP : va_P E.1 vwCl ([[(k1, .inl (E.2 0, 1160, .inl sv))], [(h0, .inr (9, [.int 0, .ref k1, .int sd, .ref k2, .ref k3, .int ln, .int at0, .int pt, .int mi, .int nu, .long ha]))]] : List va_W).flatten H := hP
  have hD : va_D A ([[(k1, .inl (E.2 0, 1160, .inl sv))], [(h0, .inr (9, [.int 0, .ref k1, .int sd, .ref k2, .ref k3, .int ln, .int at0, .int pt, .int mi, .int nu, .long ha]))]] : List va_W).flatten := hD
  refine W.eq (g2 := F0 Mi 11 ls [.int (sv 14)]) rfl ?_
  have hP : va_P E.1 vwCl ([[(h0, .inr (9, [.int 0, .ref k1, .int sd, .ref k2, .ref k3, .int ln, .int at0, .int pt, .int mi, .int nu, .long ha]))], [(k1, .inl (E.2 0, 1160, .inl sv))]] : List va_W).flatten H := zf_sub hP [1, 0] rfl
  have hD : va_D A ([[(h0, .inr (9, [.int 0, .ref k1, .int sd, .ref k2, .ref k3, .int ln, .int at0, .int pt, .int mi, .int nu, .long ha]))], [(k1, .inl (E.2 0, 1160, .inl sv))]] : List va_W).flatten := zf_subD hD [1, 0] (by decide) rfl
  exact W.iret (v := (sv 14)) hx hb hr (z_end hP hD hS rfl) hS.2.2 dX10_logged_11 hlocks

set_option maxHeartbeats 4000000 in
set_option maxRecDepth 100000 in
theorem c_X10_alarms (l : Launch) (E : zE) (h0 k1 k2 k3 : Nat) (th sd ln at0 pt mi nu : Int32) (ha : Int64) (sv : Nat → Int32) : zM l yX10_alarms wsX10_alarms ({ frames := 1, cells := 0, slots := 0, locals := 21 }) E [.ref h0] ([[(h0, .inr (9, [.int th, .ref k1, .int sd, .ref k2, .ref k3, .int ln, .int at0, .int pt, .int mi, .int nu, .long ha]))], [(k1, .inl (E.2 0, 1160, .inl sv))]] : List va_W).flatten (some (.int (sv 12))) ([[(h0, .inr (9, [.int 0, .ref k1, .int sd, .ref k2, .ref k3, .int ln, .int at0, .int pt, .int mi, .int nu, .long ha]))], [(k1, .inl (E.2 0, 1160, .inl sv))]] : List va_W).flatten 0 0 := by
  refine z_start (cc := cX10_alarms) (maxL := 1) (ret := (some .int)) (by decide) rfl (Nat.le_of_ble_eq_true rfl) ?_
  intro Pg En s Mi below meth Cd A hx hb hr hts hown hlocks hin hml hA H hH hP hK hD hS ls hl
  have hl : lv_has ls 1 [(0, .ref h0)] := hl
  have hi_X10 : ∀ w ∈ wsX100, w ∈ wsX10_alarms := by decide +kernel
  refine lv_aload_n hx hb dX10_alarms_0 rfl (lv_at hl 0 rfl) ?_
  refine lv_aload_n hx hb dX10_alarms_1 rfl (lv_at hl 0 rfl) ?_
  refine va_get (D := E.1) (ci := 9) (v := .ref k1) (C := RX10) (T := TX10) (N := 11) hx hb hts hi_X10 hown hK.1 hP 0 rfl rfl 1 (by decide) (hts (.fieldLink RX10 7 "AltimeterWatchModel" "s" "[I") (by decide +kernel)) (fun _ h9 => h9) rfl dX10_alarms_2 ?_
  refine lv_bipush (v := 12) hx hb dX10_alarms_5 (by decide) ?_
  refine z_iald (k := 12) hx hb hK.1 hP 1 rfl rfl (by decide) (by decide) dX10_alarms_7 ?_
  have hPc : va_P E.1 vwCl ([[(h0, .inr (9, [.int th, .ref k1, .int sd, .ref k2, .ref k3, .int ln, .int at0, .int pt, .int mi, .int nu, .long ha]))]] : List va_W).flatten H := zf_sub hP [0] rfl
  have hDc : va_D A ([[(h0, .inr (9, [.int th, .ref k1, .int sd, .ref k2, .ref k3, .int ln, .int at0, .int pt, .int mi, .int nu, .long ha]))]] : List va_W).flatten := zf_subD hD [0] (by decide) rfl
  refine z_mut (Sc := [[(h0, .inr (9, [.int th, .ref k1, .int sd, .ref k2, .ref k3, .int ln, .int at0, .int pt, .int mi, .int nu, .long ha]))]]) (Sr := [[(k1, .inl (E.2 0, 1160, .inl sv))]]) (W1 := [[(h0, .inr (9, [.int 0, .ref k1, .int sd, .ref k2, .ref k3, .int ln, .int at0, .int pt, .int mi, .int nu, .long ha]))]]) (va_runV (As := [.int (sv 12)]) (rest := []) ⟨hx, hb, hml, hown, hts⟩ (c_X10_told l E h0 k1 k2 k3 th sd ln at0 pt mi nu ha (sv 12) H.size) (cwV 1 hts gX10_alarms_X10_told rfl rfl rfl (by decide +kernel) ⟨Nat.le_of_ble_eq_true rfl, Nat.le_of_ble_eq_true rfl⟩) ⟨zP.blind, va_recv hK.1 hPc (ci := 9) (q0 := 0) rfl rfl, z_pre hK hPc hDc⟩ rfl rfl hl.1 rfl (lv_room (Nat.le_of_ble_eq_true rfl)) dX10_alarms_8 ⟨Nat.le_of_ble_eq_true rfl, Nat.le_of_ble_eq_true rfl⟩) hP hD hS hA [0] [1] rfl rfl (by decide) (by decide) (fun H locs hP hD hS => ?_)
  have hP : va_P E.1 vwCl ([[(k1, .inl (E.2 0, 1160, .inl sv))], [(h0, .inr (9, [.int 0, .ref k1, .int sd, .ref k2, .ref k3, .int ln, .int at0, .int pt, .int mi, .int nu, .long ha]))]] : List va_W).flatten H := hP
  have hD : va_D A ([[(k1, .inl (E.2 0, 1160, .inl sv))], [(h0, .inr (9, [.int 0, .ref k1, .int sd, .ref k2, .ref k3, .int ln, .int at0, .int pt, .int mi, .int nu, .long ha]))]] : List va_W).flatten := hD
  refine W.eq (g2 := F0 Mi 11 ls [.int (sv 12)]) rfl ?_
  have hP : va_P E.1 vwCl ([[(h0, .inr (9, [.int 0, .ref k1, .int sd, .ref k2, .ref k3, .int ln, .int at0, .int pt, .int mi, .int nu, .long ha]))], [(k1, .inl (E.2 0, 1160, .inl sv))]] : List va_W).flatten H := zf_sub hP [1, 0] rfl
  have hD : va_D A ([[(h0, .inr (9, [.int 0, .ref k1, .int sd, .ref k2, .ref k3, .int ln, .int at0, .int pt, .int mi, .int nu, .long ha]))], [(k1, .inl (E.2 0, 1160, .inl sv))]] : List va_W).flatten := zf_subD hD [1, 0] (by decide) rfl
  exact W.iret (v := (sv 12)) hx hb hr (z_end hP hD hS rfl) hS.2.2 dX10_alarms_11 hlocks

set_option maxHeartbeats 4000000 in
set_option maxRecDepth 100000 in
theorem c_X10_altitude (l : Launch) (E : zE) (h0 k1 k2 k3 : Nat) (th sd ln at0 pt mi nu : Int32) (ha : Int64) (sv : Nat → Int32) : zM l yX10_altitude wsX10_altitude ({ frames := 2, cells := 0, slots := 0, locals := 42 }) E [.ref h0] ([[(h0, .inr (9, [.int th, .ref k1, .int sd, .ref k2, .ref k3, .int ln, .int at0, .int pt, .int mi, .int nu, .long ha]))], [(k1, .inl (E.2 0, 1160, .inl sv))]] : List va_W).flatten (some (.int (m_std (sv (0 + 0)) - m_std (sv (0 + 1))))) ([[(h0, .inr (9, [.int 0, .ref k1, .int sd, .ref k2, .ref k3, .int ln, .int at0, .int pt, .int mi, .int nu, .long ha]))], [(k1, .inl (E.2 0, 1160, .inl sv))]] : List va_W).flatten 0 0 := by
  refine z_start (cc := cX10_altitude) (maxL := 1) (ret := (some .int)) (by decide) rfl (Nat.le_of_ble_eq_true rfl) ?_
  intro Pg En s Mi below meth Cd A hx hb hr hts hown hlocks hin hml hA H hH hP hK hD hS ls hl
  have hl : lv_has ls 1 [(0, .ref h0)] := hl
  refine lv_aload_n hx hb dX10_altitude_0 rfl (lv_at hl 0 rfl) ?_
  refine lv_aload_n hx hb dX10_altitude_1 rfl (lv_at hl 0 rfl) ?_
  refine lv_iconst (v := 0) hx hb dX10_altitude_2 (by decide) ?_
  have hPc : va_P E.1 vwCl ([[(h0, .inr (9, [.int th, .ref k1, .int sd, .ref k2, .ref k3, .int ln, .int at0, .int pt, .int mi, .int nu, .long ha]))], [(k1, .inl (E.2 0, 1160, .inl sv))]] : List va_W).flatten H := zf_sub hP [0, 1] rfl
  refine z_rdv (va_runV (As := [.int 0]) (rest := [.ref h0]) ⟨hx, hb, hml, hown, hts⟩ (c_X10_altitudeAt l E h0 k1 k2 k3 th sd ln at0 pt mi nu ha 0 0 rfl (by omega) sv) (cwV 1 hts gX10_altitude_X10_altitudeAt rfl rfl rfl (by decide +kernel) ⟨Nat.le_of_ble_eq_true rfl, Nat.le_of_ble_eq_true rfl⟩) ⟨zPr.blind, va_recv hK.1 hPc (ci := 9) (q0 := 0) rfl rfl, z_prer hK hPc⟩ rfl rfl hl.1 rfl (lv_room (Nat.le_of_ble_eq_true rfl)) dX10_altitude_3 ⟨Nat.le_of_ble_eq_true rfl, Nat.le_of_ble_eq_true rfl⟩) ?_
  refine W.eq (g2 := F0 Mi 6 ls [.int (m_std (sv (0 + 0)) - m_std (sv (0 + 1))), .ref h0]) rfl ?_
  have hPc : va_P E.1 vwCl ([[(h0, .inr (9, [.int th, .ref k1, .int sd, .ref k2, .ref k3, .int ln, .int at0, .int pt, .int mi, .int nu, .long ha]))]] : List va_W).flatten H := zf_sub hP [0] rfl
  have hDc : va_D A ([[(h0, .inr (9, [.int th, .ref k1, .int sd, .ref k2, .ref k3, .int ln, .int at0, .int pt, .int mi, .int nu, .long ha]))]] : List va_W).flatten := zf_subD hD [0] (by decide) rfl
  refine z_mut (Sc := [[(h0, .inr (9, [.int th, .ref k1, .int sd, .ref k2, .ref k3, .int ln, .int at0, .int pt, .int mi, .int nu, .long ha]))]]) (Sr := [[(k1, .inl (E.2 0, 1160, .inl sv))]]) (W1 := [[(h0, .inr (9, [.int 0, .ref k1, .int sd, .ref k2, .ref k3, .int ln, .int at0, .int pt, .int mi, .int nu, .long ha]))]]) (va_runV (As := [.int (m_std (sv (0 + 0)) - m_std (sv (0 + 1)))]) (rest := []) ⟨hx, hb, hml, hown, hts⟩ (c_X10_told l E h0 k1 k2 k3 th sd ln at0 pt mi nu ha (m_std (sv (0 + 0)) - m_std (sv (0 + 1))) H.size) (cwV 1 hts gX10_altitude_X10_told rfl rfl rfl (by decide +kernel) ⟨Nat.le_of_ble_eq_true rfl, Nat.le_of_ble_eq_true rfl⟩) ⟨zP.blind, va_recv hK.1 hPc (ci := 9) (q0 := 0) rfl rfl, z_pre hK hPc hDc⟩ rfl rfl hl.1 rfl (lv_room (Nat.le_of_ble_eq_true rfl)) dX10_altitude_6 ⟨Nat.le_of_ble_eq_true rfl, Nat.le_of_ble_eq_true rfl⟩) hP hD hS hA [0] [1] rfl rfl (by decide) (by decide) (fun H locs hP hD hS => ?_)
  have hP : va_P E.1 vwCl ([[(k1, .inl (E.2 0, 1160, .inl sv))], [(h0, .inr (9, [.int 0, .ref k1, .int sd, .ref k2, .ref k3, .int ln, .int at0, .int pt, .int mi, .int nu, .long ha]))]] : List va_W).flatten H := hP
  have hD : va_D A ([[(k1, .inl (E.2 0, 1160, .inl sv))], [(h0, .inr (9, [.int 0, .ref k1, .int sd, .ref k2, .ref k3, .int ln, .int at0, .int pt, .int mi, .int nu, .long ha]))]] : List va_W).flatten := hD
  refine W.eq (g2 := F0 Mi 9 ls [.int (m_std (sv (0 + 0)) - m_std (sv (0 + 1)))]) rfl ?_
  have hP : va_P E.1 vwCl ([[(h0, .inr (9, [.int 0, .ref k1, .int sd, .ref k2, .ref k3, .int ln, .int at0, .int pt, .int mi, .int nu, .long ha]))], [(k1, .inl (E.2 0, 1160, .inl sv))]] : List va_W).flatten H := zf_sub hP [1, 0] rfl
  have hD : va_D A ([[(h0, .inr (9, [.int 0, .ref k1, .int sd, .ref k2, .ref k3, .int ln, .int at0, .int pt, .int mi, .int nu, .long ha]))], [(k1, .inl (E.2 0, 1160, .inl sv))]] : List va_W).flatten := zf_subD hD [1, 0] (by decide) rfl
  exact W.iret (v := (m_std (sv (0 + 0)) - m_std (sv (0 + 1)))) hx hb hr (z_end hP hD hS rfl) hS.2.2 dX10_altitude_9 hlocks

set_option maxHeartbeats 4000000 in
set_option maxRecDepth 100000 in
theorem c_X10_fall (l : Launch) (E : zE) (h0 k1 k2 k3 : Nat) (th sd ln at0 pt mi nu : Int32) (ha : Int64) (sv : Nat → Int32) (m : Nat) (hm : sv 14 = nI m) (hm6 : m ≤ 60) : zM l yX10_fall wsX10_fall ({ frames := 1, cells := 0, slots := 0, locals := 24 }) E [.ref h0] ([[(h0, .inr (9, [.int th, .ref k1, .int sd, .ref k2, .ref k3, .int ln, .int at0, .int pt, .int mi, .int nu, .long ha]))], [(k1, .inl (E.2 0, 1160, .inl sv))]] : List va_W).flatten (some (.int (m_fallM sv 0 m))) ([[(h0, .inr (9, [.int 0, .ref k1, .int sd, .ref k2, .ref k3, .int ln, .int at0, .int pt, .int mi, .int nu, .long ha]))], [(k1, .inl (E.2 0, 1160, .inl sv))]] : List va_W).flatten 0 0 := by
  refine z_start (cc := cX10_fall) (maxL := 1) (ret := (some .int)) (by decide) rfl (Nat.le_of_ble_eq_true rfl) ?_
  intro Pg En s Mi below meth Cd A hx hb hr hts hown hlocks hin hml hA H hH hP hK hD hS ls hl
  have hl : lv_has ls 1 [(0, .ref h0)] := hl
  refine lv_aload_n hx hb dX10_fall_0 rfl (lv_at hl 0 rfl) ?_
  refine lv_aload_n hx hb dX10_fall_1 rfl (lv_at hl 0 rfl) ?_
  refine lv_iconst (v := 0) hx hb dX10_fall_2 (by decide) ?_
  have hPc : va_P E.1 vwCl ([[(h0, .inr (9, [.int th, .ref k1, .int sd, .ref k2, .ref k3, .int ln, .int at0, .int pt, .int mi, .int nu, .long ha]))], [(k1, .inl (E.2 0, 1160, .inl sv))]] : List va_W).flatten H := zf_sub hP [0, 1] rfl
  refine z_rdv (va_runV (As := [.int 0]) (rest := [.ref h0]) ⟨hx, hb, hml, hown, hts⟩ (c_X10_fallOf l E h0 k1 k2 k3 th sd ln at0 pt mi nu ha 0 0 rfl (by omega) sv m hm hm6) (cwV 1 hts gX10_fall_X10_fallOf rfl rfl rfl (by decide +kernel) ⟨Nat.le_of_ble_eq_true rfl, Nat.le_of_ble_eq_true rfl⟩) ⟨zPr.blind, va_recv hK.1 hPc (ci := 9) (q0 := 0) rfl rfl, z_prer hK hPc⟩ rfl rfl hl.1 rfl (lv_room (Nat.le_of_ble_eq_true rfl)) dX10_fall_3 ⟨Nat.le_of_ble_eq_true rfl, Nat.le_of_ble_eq_true rfl⟩) ?_
  refine W.eq (g2 := F0 Mi 6 ls [.int (m_fallM sv 0 m), .ref h0]) rfl ?_
  have hPc : va_P E.1 vwCl ([[(h0, .inr (9, [.int th, .ref k1, .int sd, .ref k2, .ref k3, .int ln, .int at0, .int pt, .int mi, .int nu, .long ha]))]] : List va_W).flatten H := zf_sub hP [0] rfl
  have hDc : va_D A ([[(h0, .inr (9, [.int th, .ref k1, .int sd, .ref k2, .ref k3, .int ln, .int at0, .int pt, .int mi, .int nu, .long ha]))]] : List va_W).flatten := zf_subD hD [0] (by decide) rfl
  refine z_mut (Sc := [[(h0, .inr (9, [.int th, .ref k1, .int sd, .ref k2, .ref k3, .int ln, .int at0, .int pt, .int mi, .int nu, .long ha]))]]) (Sr := [[(k1, .inl (E.2 0, 1160, .inl sv))]]) (W1 := [[(h0, .inr (9, [.int 0, .ref k1, .int sd, .ref k2, .ref k3, .int ln, .int at0, .int pt, .int mi, .int nu, .long ha]))]]) (va_runV (As := [.int (m_fallM sv 0 m)]) (rest := []) ⟨hx, hb, hml, hown, hts⟩ (c_X10_told l E h0 k1 k2 k3 th sd ln at0 pt mi nu ha (m_fallM sv 0 m) H.size) (cwV 1 hts gX10_fall_X10_told rfl rfl rfl (by decide +kernel) ⟨Nat.le_of_ble_eq_true rfl, Nat.le_of_ble_eq_true rfl⟩) ⟨zP.blind, va_recv hK.1 hPc (ci := 9) (q0 := 0) rfl rfl, z_pre hK hPc hDc⟩ rfl rfl hl.1 rfl (lv_room (Nat.le_of_ble_eq_true rfl)) dX10_fall_6 ⟨Nat.le_of_ble_eq_true rfl, Nat.le_of_ble_eq_true rfl⟩) hP hD hS hA [0] [1] rfl rfl (by decide) (by decide) (fun H locs hP hD hS => ?_)
  have hP : va_P E.1 vwCl ([[(k1, .inl (E.2 0, 1160, .inl sv))], [(h0, .inr (9, [.int 0, .ref k1, .int sd, .ref k2, .ref k3, .int ln, .int at0, .int pt, .int mi, .int nu, .long ha]))]] : List va_W).flatten H := hP
  have hD : va_D A ([[(k1, .inl (E.2 0, 1160, .inl sv))], [(h0, .inr (9, [.int 0, .ref k1, .int sd, .ref k2, .ref k3, .int ln, .int at0, .int pt, .int mi, .int nu, .long ha]))]] : List va_W).flatten := hD
  refine W.eq (g2 := F0 Mi 9 ls [.int (m_fallM sv 0 m)]) rfl ?_
  have hP : va_P E.1 vwCl ([[(h0, .inr (9, [.int 0, .ref k1, .int sd, .ref k2, .ref k3, .int ln, .int at0, .int pt, .int mi, .int nu, .long ha]))], [(k1, .inl (E.2 0, 1160, .inl sv))]] : List va_W).flatten H := zf_sub hP [1, 0] rfl
  have hD : va_D A ([[(h0, .inr (9, [.int 0, .ref k1, .int sd, .ref k2, .ref k3, .int ln, .int at0, .int pt, .int mi, .int nu, .long ha]))], [(k1, .inl (E.2 0, 1160, .inl sv))]] : List va_W).flatten := zf_subD hD [1, 0] (by decide) rfl
  exact W.iret (v := (m_fallM sv 0 m)) hx hb hr (z_end hP hD hS rfl) hS.2.2 dX10_fall_9 hlocks

set_option maxHeartbeats 4000000 in
set_option maxRecDepth 100000 in
theorem c_X10_isAlarm (l : Launch) (E : zE) (h0 k1 k2 k3 : Nat) (th sd ln at0 pt mi nu : Int32) (ha : Int64) (sv : Nat → Int32) (m : Nat) (hm : sv 14 = nI m) (hm6 : m ≤ 60) : zM l yX10_isAlarm wsX10_isAlarm ({ frames := 2, cells := 0, slots := 0, locals := 45 }) E [.ref h0] ([[(h0, .inr (9, [.int th, .ref k1, .int sd, .ref k2, .ref k3, .int ln, .int at0, .int pt, .int mi, .int nu, .long ha]))], [(k1, .inl (E.2 0, 1160, .inl sv))]] : List va_W).flatten (some (.int (m_alM sv 0 m))) ([[(h0, .inr (9, [.int 0, .ref k1, .int sd, .ref k2, .ref k3, .int ln, .int at0, .int pt, .int mi, .int nu, .long ha]))], [(k1, .inl (E.2 0, 1160, .inl sv))]] : List va_W).flatten 0 0 := by
  refine z_start (cc := cX10_isAlarm) (maxL := 1) (ret := (some .boolean)) (by decide) rfl (Nat.le_of_ble_eq_true rfl) ?_
  intro Pg En s Mi below meth Cd A hx hb hr hts hown hlocks hin hml hA H hH hP hK hD hS ls hl
  have hl : lv_has ls 1 [(0, .ref h0)] := hl
  have hi_X10 : ∀ w ∈ wsX100, w ∈ wsX10_isAlarm := by decide +kernel
  refine lv_aload_n hx hb dX10_isAlarm_0 rfl (lv_at hl 0 rfl) ?_
  refine lv_iconst (v := 0) hx hb dX10_isAlarm_1 (by decide) ?_
  refine va_put (D := E.1) (ci := 9) (v := .int 0) (ty := .int) (C := RX10) (T := TX10) (N := 11) hx hb hts hi_X10 tyX10 tyX10_ok nmX10 hown hK.1 hP hD hS 0 rfl rfl 0 (by decide) (hts (.fieldLink RX10 20 "AltimeterWatchModel" "thrown" "I") (by decide +kernel)) (fun _ h9 => h9) rfl (by decide +kernel) rfl rfl (Nat.le_of_ble_eq_true rfl) dX10_isAlarm_2 (fun H locs hP hD hS => ?_)
  have hP : va_P E.1 vwCl ([[(h0, .inr (9, [.int 0, .ref k1, .int sd, .ref k2, .ref k3, .int ln, .int at0, .int pt, .int mi, .int nu, .long ha]))], [(k1, .inl (E.2 0, 1160, .inl sv))]] : List va_W).flatten H := hP
  have hD : va_D A ([[(h0, .inr (9, [.int 0, .ref k1, .int sd, .ref k2, .ref k3, .int ln, .int at0, .int pt, .int mi, .int nu, .long ha]))], [(k1, .inl (E.2 0, 1160, .inl sv))]] : List va_W).flatten := hD
  refine lv_aload_n hx hb dX10_isAlarm_5 rfl (lv_at hl 0 rfl) ?_
  refine lv_iconst (v := 0) hx hb dX10_isAlarm_6 (by decide) ?_
  have hPc : va_P E.1 vwCl ([[(h0, .inr (9, [.int 0, .ref k1, .int sd, .ref k2, .ref k3, .int ln, .int at0, .int pt, .int mi, .int nu, .long ha]))], [(k1, .inl (E.2 0, 1160, .inl sv))]] : List va_W).flatten H := zf_sub hP [0, 1] rfl
  refine z_rdv (va_runV (As := [.int 0]) (rest := []) ⟨hx, hb, hml, hown, hts⟩ (c_X10_hasAlarm l E h0 k1 k2 k3 0 sd ln at0 pt mi nu ha 0 0 rfl (by omega) sv m hm hm6) (cwV 1 hts gX10_isAlarm_X10_hasAlarm rfl rfl rfl (by decide +kernel) ⟨Nat.le_of_ble_eq_true rfl, Nat.le_of_ble_eq_true rfl⟩) ⟨zPr.blind, va_recv hK.1 hPc (ci := 9) (q0 := 0) rfl rfl, z_prer hK hPc⟩ rfl rfl hl.1 rfl (lv_room (Nat.le_of_ble_eq_true rfl)) dX10_isAlarm_7 ⟨Nat.le_of_ble_eq_true rfl, Nat.le_of_ble_eq_true rfl⟩) ?_
  refine W.eq (g2 := F0 Mi 10 ls [.int (m_alM sv 0 m)]) rfl ?_
  have hP : va_P E.1 vwCl ([[(h0, .inr (9, [.int 0, .ref k1, .int sd, .ref k2, .ref k3, .int ln, .int at0, .int pt, .int mi, .int nu, .long ha]))], [(k1, .inl (E.2 0, 1160, .inl sv))]] : List va_W).flatten H := zf_sub hP [0, 1] rfl
  have hD : va_D A ([[(h0, .inr (9, [.int 0, .ref k1, .int sd, .ref k2, .ref k3, .int ln, .int at0, .int pt, .int mi, .int nu, .long ha]))], [(k1, .inl (E.2 0, 1160, .inl sv))]] : List va_W).flatten := zf_subD hD [0, 1] (by decide) rfl
  exact W.zret (v := (m_alM sv 0 m)) hx hb hr (z_bool (m_alM01 _ _ _)) (z_end hP hD hS rfl) hS.2.2 dX10_isAlarm_10 hlocks

set_option maxHeartbeats 4000000 in
set_option maxRecDepth 100000 in
theorem c_X10_savedStates (l : Launch) (E : zE) (h0 k1 k2 k3 : Nat) (th sd ln at0 pt mi nu : Int32) (ha : Int64) : zM l yX10_savedStates wsX10_savedStates ({ frames := 1, cells := 0, slots := 0, locals := 21 }) E [.ref h0] ([[(h0, .inr (9, [.int th, .ref k1, .int sd, .ref k2, .ref k3, .int ln, .int at0, .int pt, .int mi, .int nu, .long ha]))]] : List va_W).flatten (some (.int sd)) ([[(h0, .inr (9, [.int 0, .ref k1, .int sd, .ref k2, .ref k3, .int ln, .int at0, .int pt, .int mi, .int nu, .long ha]))]] : List va_W).flatten 0 0 := by
  refine z_start (cc := cX10_savedStates) (maxL := 1) (ret := (some .int)) (by decide) rfl (Nat.le_of_ble_eq_true rfl) ?_
  intro Pg En s Mi below meth Cd A hx hb hr hts hown hlocks hin hml hA H hH hP hK hD hS ls hl
  have hl : lv_has ls 1 [(0, .ref h0)] := hl
  have hi_X10 : ∀ w ∈ wsX100, w ∈ wsX10_savedStates := by decide +kernel
  refine lv_aload_n hx hb dX10_savedStates_0 rfl (lv_at hl 0 rfl) ?_
  refine lv_aload_n hx hb dX10_savedStates_1 rfl (lv_at hl 0 rfl) ?_
  refine va_get (D := E.1) (ci := 9) (v := .int sd) (C := RX10) (T := TX10) (N := 11) hx hb hts hi_X10 hown hK.1 hP 0 rfl rfl 2 (by decide) (hts (.fieldLink RX10 58 "AltimeterWatchModel" "saved" "I") (by decide +kernel)) (fun _ h9 => h9) rfl dX10_savedStates_2 ?_
  have hPc : va_P E.1 vwCl ([[(h0, .inr (9, [.int th, .ref k1, .int sd, .ref k2, .ref k3, .int ln, .int at0, .int pt, .int mi, .int nu, .long ha]))]] : List va_W).flatten H := zf_sub hP [0] rfl
  have hDc : va_D A ([[(h0, .inr (9, [.int th, .ref k1, .int sd, .ref k2, .ref k3, .int ln, .int at0, .int pt, .int mi, .int nu, .long ha]))]] : List va_W).flatten := zf_subD hD [0] (by decide) rfl
  refine z_mut (Sc := [[(h0, .inr (9, [.int th, .ref k1, .int sd, .ref k2, .ref k3, .int ln, .int at0, .int pt, .int mi, .int nu, .long ha]))]]) (Sr := []) (W1 := [[(h0, .inr (9, [.int 0, .ref k1, .int sd, .ref k2, .ref k3, .int ln, .int at0, .int pt, .int mi, .int nu, .long ha]))]]) (va_runV (As := [.int sd]) (rest := []) ⟨hx, hb, hml, hown, hts⟩ (c_X10_told l E h0 k1 k2 k3 th sd ln at0 pt mi nu ha sd H.size) (cwV 1 hts gX10_savedStates_X10_told rfl rfl rfl (by decide +kernel) ⟨Nat.le_of_ble_eq_true rfl, Nat.le_of_ble_eq_true rfl⟩) ⟨zP.blind, va_recv hK.1 hPc (ci := 9) (q0 := 0) rfl rfl, z_pre hK hPc hDc⟩ rfl rfl hl.1 rfl (lv_room (Nat.le_of_ble_eq_true rfl)) dX10_savedStates_5 ⟨Nat.le_of_ble_eq_true rfl, Nat.le_of_ble_eq_true rfl⟩) hP hD hS hA [0] [] rfl rfl (by decide) (by decide) (fun H locs hP hD hS => ?_)
  have hP : va_P E.1 vwCl ([[(h0, .inr (9, [.int 0, .ref k1, .int sd, .ref k2, .ref k3, .int ln, .int at0, .int pt, .int mi, .int nu, .long ha]))]] : List va_W).flatten H := hP
  have hD : va_D A ([[(h0, .inr (9, [.int 0, .ref k1, .int sd, .ref k2, .ref k3, .int ln, .int at0, .int pt, .int mi, .int nu, .long ha]))]] : List va_W).flatten := hD
  refine W.eq (g2 := F0 Mi 8 ls [.int sd]) rfl ?_
  have hP : va_P E.1 vwCl ([[(h0, .inr (9, [.int 0, .ref k1, .int sd, .ref k2, .ref k3, .int ln, .int at0, .int pt, .int mi, .int nu, .long ha]))]] : List va_W).flatten H := zf_sub hP [0] rfl
  have hD : va_D A ([[(h0, .inr (9, [.int 0, .ref k1, .int sd, .ref k2, .ref k3, .int ln, .int at0, .int pt, .int mi, .int nu, .long ha]))]] : List va_W).flatten := zf_subD hD [0] (by decide) rfl
  exact W.iret (v := sd) hx hb hr (z_end hP hD hS rfl) hS.2.2 dX10_savedStates_8 hlocks

set_option maxHeartbeats 4000000 in
set_option maxRecDepth 100000 in
theorem c_X10_isStation (l : Launch) (E : zE) (h0 k1 k2 k3 : Nat) (th sd ln at0 pt mi nu : Int32) (ha : Int64) (sv : Nat → Int32) (h2 : sv 2 = 0 ∨ sv 2 = 1) : zM l yX10_isStation wsX10_isStation ({ frames := 0, cells := 0, slots := 0, locals := 0 }) E [.ref h0] ([[(h0, .inr (9, [.int th, .ref k1, .int sd, .ref k2, .ref k3, .int ln, .int at0, .int pt, .int mi, .int nu, .long ha]))], [(k1, .inl (E.2 0, 1160, .inl sv))]] : List va_W).flatten (some (.int (sv 2))) ([[(h0, .inr (9, [.int 0, .ref k1, .int sd, .ref k2, .ref k3, .int ln, .int at0, .int pt, .int mi, .int nu, .long ha]))], [(k1, .inl (E.2 0, 1160, .inl sv))]] : List va_W).flatten 0 0 := by
  refine z_start (cc := cX10_isStation) (maxL := 1) (ret := (some .boolean)) (by decide) rfl (Nat.le_of_ble_eq_true rfl) ?_
  intro Pg En s Mi below meth Cd A hx hb hr hts hown hlocks hin hml hA H hH hP hK hD hS ls hl
  have hl : lv_has ls 1 [(0, .ref h0)] := hl
  have hi_X10 : ∀ w ∈ wsX100, w ∈ wsX10_isStation := by decide +kernel
  refine lv_aload_n hx hb dX10_isStation_0 rfl (lv_at hl 0 rfl) ?_
  refine lv_iconst (v := 0) hx hb dX10_isStation_1 (by decide) ?_
  refine va_put (D := E.1) (ci := 9) (v := .int 0) (ty := .int) (C := RX10) (T := TX10) (N := 11) hx hb hts hi_X10 tyX10 tyX10_ok nmX10 hown hK.1 hP hD hS 0 rfl rfl 0 (by decide) (hts (.fieldLink RX10 20 "AltimeterWatchModel" "thrown" "I") (by decide +kernel)) (fun _ h9 => h9) rfl (by decide +kernel) rfl rfl (Nat.le_of_ble_eq_true rfl) dX10_isStation_2 (fun H locs hP hD hS => ?_)
  have hP : va_P E.1 vwCl ([[(h0, .inr (9, [.int 0, .ref k1, .int sd, .ref k2, .ref k3, .int ln, .int at0, .int pt, .int mi, .int nu, .long ha]))], [(k1, .inl (E.2 0, 1160, .inl sv))]] : List va_W).flatten H := hP
  have hD : va_D A ([[(h0, .inr (9, [.int 0, .ref k1, .int sd, .ref k2, .ref k3, .int ln, .int at0, .int pt, .int mi, .int nu, .long ha]))], [(k1, .inl (E.2 0, 1160, .inl sv))]] : List va_W).flatten := hD
  refine lv_aload_n hx hb dX10_isStation_5 rfl (lv_at hl 0 rfl) ?_
  refine va_get (D := E.1) (ci := 9) (v := .ref k1) (C := RX10) (T := TX10) (N := 11) hx hb hts hi_X10 hown hK.1 hP 0 rfl rfl 1 (by decide) (hts (.fieldLink RX10 7 "AltimeterWatchModel" "s" "[I") (by decide +kernel)) (fun _ h9 => h9) rfl dX10_isStation_6 ?_
  refine lv_iconst (v := 2) hx hb dX10_isStation_9 (by decide) ?_
  refine z_iald (k := 2) hx hb hK.1 hP 1 rfl rfl (by decide) (by decide) dX10_isStation_10 ?_
  refine lv_iconst (v := 1) hx hb dX10_isStation_11 (by decide) ?_
  refine lv_icmp_ne (tgt := 19) hx hb dX10_isStation_12 (by decide) (fun c_12 => ?_) (fun c_12 => ?_)
  · refine lv_iconst (v := 0) hx hb dX10_isStation_19 (by decide) ?_
    refine z_topi (y := (sv 2)) (h2.resolve_right c_12).symm ?_
    have hP : va_P E.1 vwCl ([[(h0, .inr (9, [.int 0, .ref k1, .int sd, .ref k2, .ref k3, .int ln, .int at0, .int pt, .int mi, .int nu, .long ha]))], [(k1, .inl (E.2 0, 1160, .inl sv))]] : List va_W).flatten H := zf_sub hP [0, 1] rfl
    have hD : va_D A ([[(h0, .inr (9, [.int 0, .ref k1, .int sd, .ref k2, .ref k3, .int ln, .int at0, .int pt, .int mi, .int nu, .long ha]))], [(k1, .inl (E.2 0, 1160, .inl sv))]] : List va_W).flatten := zf_subD hD [0, 1] (by decide) rfl
    exact W.zret (v := (sv 2)) hx hb hr (z_bool h2) (z_end hP hD hS rfl) hS.2.2 dX10_isStation_20 hlocks
  · refine lv_iconst (v := 1) hx hb dX10_isStation_15 (by decide) ?_
    refine lv_goto (tgt := 20) hx hb dX10_isStation_16 (by decide) ?_
    refine z_topi (y := (sv 2)) c_12.symm ?_
    have hP : va_P E.1 vwCl ([[(h0, .inr (9, [.int 0, .ref k1, .int sd, .ref k2, .ref k3, .int ln, .int at0, .int pt, .int mi, .int nu, .long ha]))], [(k1, .inl (E.2 0, 1160, .inl sv))]] : List va_W).flatten H := zf_sub hP [0, 1] rfl
    have hD : va_D A ([[(h0, .inr (9, [.int 0, .ref k1, .int sd, .ref k2, .ref k3, .int ln, .int at0, .int pt, .int mi, .int nu, .long ha]))], [(k1, .inl (E.2 0, 1160, .inl sv))]] : List va_W).flatten := zf_subD hD [0, 1] (by decide) rfl
    exact W.zret (v := (sv 2)) hx hb hr (z_bool h2) (z_end hP hD hS rfl) hS.2.2 dX10_isStation_20 hlocks

set_option maxHeartbeats 4000000 in
set_option maxRecDepth 100000 in
theorem c_X10_changed (l : Launch) (E : zE) (h0 k1 k2 k3 : Nat) (th sd ln at0 pt mi nu : Int32) (ha : Int64) (sv : Nat → Int32) (d : Nat) (hsd : sd = nI d) (hd : d ≤ 6) (x1 y : Int32) (k : Nat) (e1 : x1 = nI k) (hk : k < 116) : zM l yX10_changed wsX10_changed ({ frames := 2, cells := 0, slots := 0, locals := 44 }) E [.ref h0, .int x1, .int y] ([[(h0, .inr (9, [.int th, .ref k1, .int sd, .ref k2, .ref k3, .int ln, .int at0, .int pt, .int mi, .int nu, .long ha]))], [(k1, .inl (E.2 0, 1160, .inl sv))]] : List va_W).flatten (some (.int (sv k))) ([[(h0, .inr (9, [.int th, .ref k1, .int (nI (m_svC d)), .ref k2, .ref k3, .int ln, .int at0, .int pt, .int mi, .int nu, .long ha]))], [(k1, .inl (E.2 0, 1160, .inl (upd (m_svA sv d) k y)))]] : List va_W).flatten 0 0 := by
  refine z_start (cc := cX10_changed) (maxL := 4) (ret := (some .int)) (by decide) rfl (Nat.le_of_ble_eq_true rfl) ?_
  intro Pg En s Mi below meth Cd A hx hb hr hts hown hlocks hin hml hA H hH hP hK hD hS ls hl
  have hl : lv_has ls 4 [(0, .ref h0), (1, .int x1), (2, .int y)] := hl
  have hi_X10 : ∀ w ∈ wsX100, w ∈ wsX10_changed := by decide +kernel
  refine lv_aload_n hx hb dX10_changed_0 rfl (lv_at hl 0 rfl) ?_
  have hPc : va_P E.1 vwCl ([[(h0, .inr (9, [.int th, .ref k1, .int sd, .ref k2, .ref k3, .int ln, .int at0, .int pt, .int mi, .int nu, .long ha]))], [(k1, .inl (E.2 0, 1160, .inl sv))]] : List va_W).flatten H := zf_sub hP [0, 1] rfl
  have hDc : va_D A ([[(h0, .inr (9, [.int th, .ref k1, .int sd, .ref k2, .ref k3, .int ln, .int at0, .int pt, .int mi, .int nu, .long ha]))], [(k1, .inl (E.2 0, 1160, .inl sv))]] : List va_W).flatten := zf_subD hD [0, 1] (by decide) rfl
  refine z_mut (Sc := [[(h0, .inr (9, [.int th, .ref k1, .int sd, .ref k2, .ref k3, .int ln, .int at0, .int pt, .int mi, .int nu, .long ha]))], [(k1, .inl (E.2 0, 1160, .inl sv))]]) (Sr := []) (W1 := [[(h0, .inr (9, [.int th, .ref k1, .int (nI (m_svC d)), .ref k2, .ref k3, .int ln, .int at0, .int pt, .int mi, .int nu, .long ha]))], [(k1, .inl (E.2 0, 1160, .inl (m_svA sv d)))]]) (va_runV (As := []) (rest := []) ⟨hx, hb, hml, hown, hts⟩ (c_X10_save l E h0 k1 k2 k3 th sd ln at0 pt mi nu ha sv d hsd hd H.size) (cwV 0 hts gX10_changed_X10_save rfl rfl rfl (by decide +kernel) ⟨Nat.le_of_ble_eq_true rfl, Nat.le_of_ble_eq_true rfl⟩) ⟨zP.blind, va_recv hK.1 hPc (ci := 9) (q0 := 0) rfl rfl, z_pre hK hPc hDc⟩ rfl rfl hl.1 rfl (lv_room (Nat.le_of_ble_eq_true rfl)) dX10_changed_1 ⟨Nat.le_of_ble_eq_true rfl, Nat.le_of_ble_eq_true rfl⟩) hP hD hS hA [0, 1] [] rfl rfl (by decide) (by decide) (fun H locs hP hD hS => ?_)
  have hP : va_P E.1 vwCl ([[(h0, .inr (9, [.int th, .ref k1, .int (nI (m_svC d)), .ref k2, .ref k3, .int ln, .int at0, .int pt, .int mi, .int nu, .long ha]))], [(k1, .inl (E.2 0, 1160, .inl (m_svA sv d)))]] : List va_W).flatten H := hP
  have hD : va_D A ([[(h0, .inr (9, [.int th, .ref k1, .int (nI (m_svC d)), .ref k2, .ref k3, .int ln, .int at0, .int pt, .int mi, .int nu, .long ha]))], [(k1, .inl (E.2 0, 1160, .inl (m_svA sv d)))]] : List va_W).flatten := hD
  refine W.eq (g2 := F0 Mi 4 ls []) rfl ?_
  refine lv_aload_n hx hb dX10_changed_4 rfl (lv_at hl 0 rfl) ?_
  refine va_get (D := E.1) (ci := 9) (v := .ref k1) (C := RX10) (T := TX10) (N := 11) hx hb hts hi_X10 hown hK.1 hP 0 rfl rfl 1 (by decide) (hts (.fieldLink RX10 7 "AltimeterWatchModel" "s" "[I") (by decide +kernel)) (fun _ h9 => h9) rfl dX10_changed_5 ?_
  refine lv_iload_n hx hb dX10_changed_8 rfl (lv_at hl 1 rfl) ?_
  refine z_iald (k := k) hx hb hK.1 hP 1 rfl e1 (by omega) (by decide) dX10_changed_9 ?_
  refine z_topi (y := (sv k)) (m_svA_lo (by omega)) ?_
  refine lv_topi (fun f_1 ef_1 => ?_)
  refine lv_istore_n (lv' := [(3, .int f_1), (0, .ref h0), (1, .int x1), (2, .int y)]) hx hb dX10_changed_10 rfl hl (by decide) rfl (fun ls hl => ?_)
  refine lv_aload_n hx hb dX10_changed_11 rfl (lv_at hl 1 rfl) ?_
  refine va_get (D := E.1) (ci := 9) (v := .ref k1) (C := RX10) (T := TX10) (N := 11) hx hb hts hi_X10 hown hK.1 hP 0 rfl rfl 1 (by decide) (hts (.fieldLink RX10 7 "AltimeterWatchModel" "s" "[I") (by decide +kernel)) (fun _ h9 => h9) rfl dX10_changed_12 ?_
  refine lv_iload_n hx hb dX10_changed_15 rfl (lv_at hl 2 rfl) ?_
  refine lv_iload_n hx hb dX10_changed_16 rfl (lv_at hl 3 rfl) ?_
  refine z_iast (k := k) hx hb hK.1 hP hD hS 1 rfl e1 (by omega) (by decide) dX10_changed_17 (fun H locs hP hD hS => ?_)
  have hP : va_P E.1 vwCl ([[(h0, .inr (9, [.int th, .ref k1, .int (nI (m_svC d)), .ref k2, .ref k3, .int ln, .int at0, .int pt, .int mi, .int nu, .long ha]))], [(k1, .inl (E.2 0, 1160, .inl (upd (m_svA sv d) k y)))]] : List va_W).flatten H := hP
  have hD : va_D A ([[(h0, .inr (9, [.int th, .ref k1, .int (nI (m_svC d)), .ref k2, .ref k3, .int ln, .int at0, .int pt, .int mi, .int nu, .long ha]))], [(k1, .inl (E.2 0, 1160, .inl (upd (m_svA sv d) k y)))]] : List va_W).flatten := hD
  refine lv_iload_n hx hb dX10_changed_18 rfl (lv_at hl 0 rfl) ?_
  refine z_topi (y := sv k) ef_1 ?_
  have hP : va_P E.1 vwCl ([[(h0, .inr (9, [.int th, .ref k1, .int (nI (m_svC d)), .ref k2, .ref k3, .int ln, .int at0, .int pt, .int mi, .int nu, .long ha]))], [(k1, .inl (E.2 0, 1160, .inl (upd (m_svA sv d) k y)))]] : List va_W).flatten H := zf_sub hP [0, 1] rfl
  have hD : va_D A ([[(h0, .inr (9, [.int th, .ref k1, .int (nI (m_svC d)), .ref k2, .ref k3, .int ln, .int at0, .int pt, .int mi, .int nu, .long ha]))], [(k1, .inl (E.2 0, 1160, .inl (upd (m_svA sv d) k y)))]] : List va_W).flatten := zf_subD hD [0, 1] (by decide) rfl
  exact W.iret (v := sv k) hx hb hr (z_end hP hD hS rfl) hS.2.2 dX10_changed_19 hlocks

set_option maxHeartbeats 4000000 in
set_option maxRecDepth 100000 in
theorem c_X10_standard_n (l : Launch) (E : zE) (h0 k1 k2 k3 : Nat) (th sd ln at0 pt mi nu : Int32) (ha : Int64) (sv : Nat → Int32) (x : Int32) (hok : m_in x 5000 11000 = 0) : zM l yX10_standard wsX10_standard ({ frames := 1, cells := 0, slots := 0, locals := 22 }) E [.ref h0, .int x] ([[(h0, .inr (9, [.int th, .ref k1, .int sd, .ref k2, .ref k3, .int ln, .int at0, .int pt, .int mi, .int nu, .long ha]))], [(k1, .inl (E.2 0, 1160, .inl sv))]] : List va_W).flatten (some (.int 0)) ([[(h0, .inr (9, [.int 1, .ref k1, .int sd, .ref k2, .ref k3, .int ln, .int at0, .int pt, .int mi, .int nu, .long ha]))], [(k1, .inl (E.2 0, 1160, .inl sv))]] : List va_W).flatten 0 0 := by
  refine z_start (cc := cX10_standard) (maxL := 2) (ret := (some .int)) (by decide) rfl (Nat.le_of_ble_eq_true rfl) ?_
  intro Pg En s Mi below meth Cd A hx hb hr hts hown hlocks hin hml hA H hH hP hK hD hS ls hl
  have hl : lv_has ls 2 [(0, .ref h0), (1, .int x)] := hl
  refine lv_aload_n hx hb dX10_standard_0 rfl (lv_at hl 0 rfl) ?_
  refine lv_iload_n hx hb dX10_standard_1 rfl (lv_at hl 1 rfl) ?_
  refine lv_sipush (v := 5000) hx hb dX10_standard_2 (by decide) ?_
  refine lv_sipush (v := 11000) hx hb dX10_standard_5 (by decide) ?_
  refine z_rdv (va_runS (As := [.int x, .int 5000, .int 11000]) (rest := [.ref h0]) ⟨hx, hb, hml, hown, hts⟩ (c_X10_in l E x 5000 11000) (va_cwS 3 hts gX10_standard_X10_in rfl rfl rfl (by decide +kernel) ⟨Nat.le_of_ble_eq_true rfl, Nat.le_of_ble_eq_true rfl⟩) ⟨zPr.blind, z_prer hK zP_nil⟩ rfl rfl hl.1 rfl (lv_room (Nat.le_of_ble_eq_true rfl)) dX10_standard_8 ⟨Nat.le_of_ble_eq_true rfl, Nat.le_of_ble_eq_true rfl⟩) ?_
  refine W.eq (g2 := F0 Mi 11 ls [.int (m_in x 5000 11000), .ref h0]) rfl ?_
  refine lv_if_eq (tgt := 18) hx hb dX10_standard_11 (by decide) (fun _ => ?_) (fun h9 => absurd (hok) h9)
  refine lv_iconst (v := 1) hx hb dX10_standard_18 (by decide) ?_
  have hPc : va_P E.1 vwCl ([[(h0, .inr (9, [.int th, .ref k1, .int sd, .ref k2, .ref k3, .int ln, .int at0, .int pt, .int mi, .int nu, .long ha]))]] : List va_W).flatten H := zf_sub hP [0] rfl
  have hDc : va_D A ([[(h0, .inr (9, [.int th, .ref k1, .int sd, .ref k2, .ref k3, .int ln, .int at0, .int pt, .int mi, .int nu, .long ha]))]] : List va_W).flatten := zf_subD hD [0] (by decide) rfl
  refine z_mut (Sc := [[(h0, .inr (9, [.int th, .ref k1, .int sd, .ref k2, .ref k3, .int ln, .int at0, .int pt, .int mi, .int nu, .long ha]))]]) (Sr := [[(k1, .inl (E.2 0, 1160, .inl sv))]]) (W1 := [[(h0, .inr (9, [.int 1, .ref k1, .int sd, .ref k2, .ref k3, .int ln, .int at0, .int pt, .int mi, .int nu, .long ha]))]]) (va_runV (As := [.int 1]) (rest := []) ⟨hx, hb, hml, hown, hts⟩ (c_X10_holds l E h0 k1 k2 k3 th sd ln at0 pt mi nu ha 1 H.size) (cwV 1 hts gX10_standard_X10_holds rfl rfl rfl (by decide +kernel) ⟨Nat.le_of_ble_eq_true rfl, Nat.le_of_ble_eq_true rfl⟩) ⟨zP.blind, va_recv hK.1 hPc (ci := 9) (q0 := 0) rfl rfl, z_pre hK hPc hDc⟩ rfl rfl hl.1 rfl (lv_room (Nat.le_of_ble_eq_true rfl)) dX10_standard_19 ⟨Nat.le_of_ble_eq_true rfl, Nat.le_of_ble_eq_true rfl⟩) hP hD hS hA [0] [1] rfl rfl (by decide) (by decide) (fun H locs hP hD hS => ?_)
  have hP : va_P E.1 vwCl ([[(k1, .inl (E.2 0, 1160, .inl sv))], [(h0, .inr (9, [.int 1, .ref k1, .int sd, .ref k2, .ref k3, .int ln, .int at0, .int pt, .int mi, .int nu, .long ha]))]] : List va_W).flatten H := hP
  have hD : va_D A ([[(k1, .inl (E.2 0, 1160, .inl sv))], [(h0, .inr (9, [.int 1, .ref k1, .int sd, .ref k2, .ref k3, .int ln, .int at0, .int pt, .int mi, .int nu, .long ha]))]] : List va_W).flatten := hD
  refine W.eq (g2 := F0 Mi 22 ls [.int (m_z01 1)]) rfl ?_
  refine lv_if_eq (tgt := 32) hx hb dX10_standard_22 (by decide) (fun _ => ?_) (fun h9 => absurd ((by decide)) h9)
  refine lv_iconst (v := 0) hx hb dX10_standard_32 (by decide) ?_
  have hP : va_P E.1 vwCl ([[(h0, .inr (9, [.int 1, .ref k1, .int sd, .ref k2, .ref k3, .int ln, .int at0, .int pt, .int mi, .int nu, .long ha]))], [(k1, .inl (E.2 0, 1160, .inl sv))]] : List va_W).flatten H := zf_sub hP [1, 0] rfl
  have hD : va_D A ([[(h0, .inr (9, [.int 1, .ref k1, .int sd, .ref k2, .ref k3, .int ln, .int at0, .int pt, .int mi, .int nu, .long ha]))], [(k1, .inl (E.2 0, 1160, .inl sv))]] : List va_W).flatten := zf_subD hD [1, 0] (by decide) rfl
  exact W.iret (v := 0) hx hb hr (z_end hP hD hS rfl) hS.2.2 dX10_standard_33 hlocks

set_option maxHeartbeats 4000000 in
set_option maxRecDepth 100000 in
theorem c_X10_standard_y (l : Launch) (E : zE) (h0 k1 k2 k3 : Nat) (th sd ln at0 pt mi nu : Int32) (ha : Int64) (sv : Nat → Int32) (x : Int32) (hok : m_in x 5000 11000 = 1) : zM l yX10_standard wsX10_standard ({ frames := 1, cells := 0, slots := 0, locals := 22 }) E [.ref h0, .int x] ([[(h0, .inr (9, [.int th, .ref k1, .int sd, .ref k2, .ref k3, .int ln, .int at0, .int pt, .int mi, .int nu, .long ha]))], [(k1, .inl (E.2 0, 1160, .inl sv))]] : List va_W).flatten (some (.int (m_std x))) ([[(h0, .inr (9, [.int 0, .ref k1, .int sd, .ref k2, .ref k3, .int ln, .int at0, .int pt, .int mi, .int nu, .long ha]))], [(k1, .inl (E.2 0, 1160, .inl sv))]] : List va_W).flatten 0 0 := by
  refine z_start (cc := cX10_standard) (maxL := 2) (ret := (some .int)) (by decide) rfl (Nat.le_of_ble_eq_true rfl) ?_
  intro Pg En s Mi below meth Cd A hx hb hr hts hown hlocks hin hml hA H hH hP hK hD hS ls hl
  have hl : lv_has ls 2 [(0, .ref h0), (1, .int x)] := hl
  refine lv_aload_n hx hb dX10_standard_0 rfl (lv_at hl 0 rfl) ?_
  refine lv_iload_n hx hb dX10_standard_1 rfl (lv_at hl 1 rfl) ?_
  refine lv_sipush (v := 5000) hx hb dX10_standard_2 (by decide) ?_
  refine lv_sipush (v := 11000) hx hb dX10_standard_5 (by decide) ?_
  refine z_rdv (va_runS (As := [.int x, .int 5000, .int 11000]) (rest := [.ref h0]) ⟨hx, hb, hml, hown, hts⟩ (c_X10_in l E x 5000 11000) (va_cwS 3 hts gX10_standard_X10_in rfl rfl rfl (by decide +kernel) ⟨Nat.le_of_ble_eq_true rfl, Nat.le_of_ble_eq_true rfl⟩) ⟨zPr.blind, z_prer hK zP_nil⟩ rfl rfl hl.1 rfl (lv_room (Nat.le_of_ble_eq_true rfl)) dX10_standard_8 ⟨Nat.le_of_ble_eq_true rfl, Nat.le_of_ble_eq_true rfl⟩) ?_
  refine W.eq (g2 := F0 Mi 11 ls [.int (m_in x 5000 11000), .ref h0]) rfl ?_
  refine lv_if_eq (tgt := 18) hx hb dX10_standard_11 (by decide) (fun h9 => absurd h9 ((by rw [hok]; decide))) (fun _ => ?_)
  refine lv_iconst (v := 0) hx hb dX10_standard_14 (by decide) ?_
  refine lv_goto (tgt := 19) hx hb dX10_standard_15 (by decide) ?_
  have hPc : va_P E.1 vwCl ([[(h0, .inr (9, [.int th, .ref k1, .int sd, .ref k2, .ref k3, .int ln, .int at0, .int pt, .int mi, .int nu, .long ha]))]] : List va_W).flatten H := zf_sub hP [0] rfl
  have hDc : va_D A ([[(h0, .inr (9, [.int th, .ref k1, .int sd, .ref k2, .ref k3, .int ln, .int at0, .int pt, .int mi, .int nu, .long ha]))]] : List va_W).flatten := zf_subD hD [0] (by decide) rfl
  refine z_mut (Sc := [[(h0, .inr (9, [.int th, .ref k1, .int sd, .ref k2, .ref k3, .int ln, .int at0, .int pt, .int mi, .int nu, .long ha]))]]) (Sr := [[(k1, .inl (E.2 0, 1160, .inl sv))]]) (W1 := [[(h0, .inr (9, [.int 0, .ref k1, .int sd, .ref k2, .ref k3, .int ln, .int at0, .int pt, .int mi, .int nu, .long ha]))]]) (va_runV (As := [.int 0]) (rest := []) ⟨hx, hb, hml, hown, hts⟩ (c_X10_holds l E h0 k1 k2 k3 th sd ln at0 pt mi nu ha 0 H.size) (cwV 1 hts gX10_standard_X10_holds rfl rfl rfl (by decide +kernel) ⟨Nat.le_of_ble_eq_true rfl, Nat.le_of_ble_eq_true rfl⟩) ⟨zP.blind, va_recv hK.1 hPc (ci := 9) (q0 := 0) rfl rfl, z_pre hK hPc hDc⟩ rfl rfl hl.1 rfl (lv_room (Nat.le_of_ble_eq_true rfl)) dX10_standard_19 ⟨Nat.le_of_ble_eq_true rfl, Nat.le_of_ble_eq_true rfl⟩) hP hD hS hA [0] [1] rfl rfl (by decide) (by decide) (fun H locs hP hD hS => ?_)
  have hP : va_P E.1 vwCl ([[(k1, .inl (E.2 0, 1160, .inl sv))], [(h0, .inr (9, [.int 0, .ref k1, .int sd, .ref k2, .ref k3, .int ln, .int at0, .int pt, .int mi, .int nu, .long ha]))]] : List va_W).flatten H := hP
  have hD : va_D A ([[(k1, .inl (E.2 0, 1160, .inl sv))], [(h0, .inr (9, [.int 0, .ref k1, .int sd, .ref k2, .ref k3, .int ln, .int at0, .int pt, .int mi, .int nu, .long ha]))]] : List va_W).flatten := hD
  refine W.eq (g2 := F0 Mi 22 ls [.int (m_z01 0)]) rfl ?_
  refine lv_if_eq (tgt := 32) hx hb dX10_standard_22 (by decide) (fun h9 => absurd h9 ((by decide))) (fun _ => ?_)
  refine lv_iload_n hx hb dX10_standard_25 rfl (lv_at hl 1 rfl) ?_
  refine z_rdv (va_runS (As := [.int x]) (rest := []) ⟨hx, hb, hml, hown, hts⟩ (c_X10_standardOf l E x) (va_cwS 1 hts gX10_standard_X10_standardOf rfl rfl rfl (by decide +kernel) ⟨Nat.le_of_ble_eq_true rfl, Nat.le_of_ble_eq_true rfl⟩) ⟨zPr.blind, z_prer hK zP_nil⟩ rfl rfl hl.1 rfl (lv_room (Nat.le_of_ble_eq_true rfl)) dX10_standard_26 ⟨Nat.le_of_ble_eq_true rfl, Nat.le_of_ble_eq_true rfl⟩) ?_
  refine W.eq (g2 := F0 Mi 29 ls [.int (m_std x)]) rfl ?_
  refine lv_goto (tgt := 33) hx hb dX10_standard_29 (by decide) ?_
  have hP : va_P E.1 vwCl ([[(h0, .inr (9, [.int 0, .ref k1, .int sd, .ref k2, .ref k3, .int ln, .int at0, .int pt, .int mi, .int nu, .long ha]))], [(k1, .inl (E.2 0, 1160, .inl sv))]] : List va_W).flatten H := zf_sub hP [1, 0] rfl
  have hD : va_D A ([[(h0, .inr (9, [.int 0, .ref k1, .int sd, .ref k2, .ref k3, .int ln, .int at0, .int pt, .int mi, .int nu, .long ha]))], [(k1, .inl (E.2 0, 1160, .inl sv))]] : List va_W).flatten := zf_subD hD [1, 0] (by decide) rfl
  exact W.iret (v := (m_std x)) hx hb hr (z_end hP hD hS rfl) hS.2.2 dX10_standard_33 hlocks

set_option maxHeartbeats 4000000 in
set_option maxRecDepth 100000 in
theorem c_X10_setThreshold_n (l : Launch) (E : zE) (h0 k1 k2 k3 : Nat) (th sd ln at0 pt mi nu : Int32) (ha : Int64) (sv : Nat → Int32) (x : Int32) (hok : m_in x 10 500 = 0) : zM l yX10_setThreshold wsX10_setThreshold ({ frames := 1, cells := 0, slots := 0, locals := 22 }) E [.ref h0, .int x] ([[(h0, .inr (9, [.int th, .ref k1, .int sd, .ref k2, .ref k3, .int ln, .int at0, .int pt, .int mi, .int nu, .long ha]))], [(k1, .inl (E.2 0, 1160, .inl sv))]] : List va_W).flatten (some (.int 0)) ([[(h0, .inr (9, [.int 1, .ref k1, .int sd, .ref k2, .ref k3, .int ln, .int at0, .int pt, .int mi, .int nu, .long ha]))], [(k1, .inl (E.2 0, 1160, .inl sv))]] : List va_W).flatten 0 0 := by
  refine z_start (cc := cX10_setThreshold) (maxL := 2) (ret := (some .int)) (by decide) rfl (Nat.le_of_ble_eq_true rfl) ?_
  intro Pg En s Mi below meth Cd A hx hb hr hts hown hlocks hin hml hA H hH hP hK hD hS ls hl
  have hl : lv_has ls 2 [(0, .ref h0), (1, .int x)] := hl
  refine lv_aload_n hx hb dX10_setThreshold_0 rfl (lv_at hl 0 rfl) ?_
  refine lv_iload_n hx hb dX10_setThreshold_1 rfl (lv_at hl 1 rfl) ?_
  refine lv_bipush (v := 10) hx hb dX10_setThreshold_2 (by decide) ?_
  refine lv_sipush (v := 500) hx hb dX10_setThreshold_4 (by decide) ?_
  refine z_rdv (va_runS (As := [.int x, .int 10, .int 500]) (rest := [.ref h0]) ⟨hx, hb, hml, hown, hts⟩ (c_X10_in l E x 10 500) (va_cwS 3 hts gX10_setThreshold_X10_in rfl rfl rfl (by decide +kernel) ⟨Nat.le_of_ble_eq_true rfl, Nat.le_of_ble_eq_true rfl⟩) ⟨zPr.blind, z_prer hK zP_nil⟩ rfl rfl hl.1 rfl (lv_room (Nat.le_of_ble_eq_true rfl)) dX10_setThreshold_7 ⟨Nat.le_of_ble_eq_true rfl, Nat.le_of_ble_eq_true rfl⟩) ?_
  refine W.eq (g2 := F0 Mi 10 ls [.int (m_in x 10 500), .ref h0]) rfl ?_
  refine lv_if_eq (tgt := 17) hx hb dX10_setThreshold_10 (by decide) (fun _ => ?_) (fun h9 => absurd (hok) h9)
  refine lv_iconst (v := 1) hx hb dX10_setThreshold_17 (by decide) ?_
  have hPc : va_P E.1 vwCl ([[(h0, .inr (9, [.int th, .ref k1, .int sd, .ref k2, .ref k3, .int ln, .int at0, .int pt, .int mi, .int nu, .long ha]))]] : List va_W).flatten H := zf_sub hP [0] rfl
  have hDc : va_D A ([[(h0, .inr (9, [.int th, .ref k1, .int sd, .ref k2, .ref k3, .int ln, .int at0, .int pt, .int mi, .int nu, .long ha]))]] : List va_W).flatten := zf_subD hD [0] (by decide) rfl
  refine z_mut (Sc := [[(h0, .inr (9, [.int th, .ref k1, .int sd, .ref k2, .ref k3, .int ln, .int at0, .int pt, .int mi, .int nu, .long ha]))]]) (Sr := [[(k1, .inl (E.2 0, 1160, .inl sv))]]) (W1 := [[(h0, .inr (9, [.int 1, .ref k1, .int sd, .ref k2, .ref k3, .int ln, .int at0, .int pt, .int mi, .int nu, .long ha]))]]) (va_runV (As := [.int 1]) (rest := []) ⟨hx, hb, hml, hown, hts⟩ (c_X10_holds l E h0 k1 k2 k3 th sd ln at0 pt mi nu ha 1 H.size) (cwV 1 hts gX10_setThreshold_X10_holds rfl rfl rfl (by decide +kernel) ⟨Nat.le_of_ble_eq_true rfl, Nat.le_of_ble_eq_true rfl⟩) ⟨zP.blind, va_recv hK.1 hPc (ci := 9) (q0 := 0) rfl rfl, z_pre hK hPc hDc⟩ rfl rfl hl.1 rfl (lv_room (Nat.le_of_ble_eq_true rfl)) dX10_setThreshold_18 ⟨Nat.le_of_ble_eq_true rfl, Nat.le_of_ble_eq_true rfl⟩) hP hD hS hA [0] [1] rfl rfl (by decide) (by decide) (fun H locs hP hD hS => ?_)
  have hP : va_P E.1 vwCl ([[(k1, .inl (E.2 0, 1160, .inl sv))], [(h0, .inr (9, [.int 1, .ref k1, .int sd, .ref k2, .ref k3, .int ln, .int at0, .int pt, .int mi, .int nu, .long ha]))]] : List va_W).flatten H := hP
  have hD : va_D A ([[(k1, .inl (E.2 0, 1160, .inl sv))], [(h0, .inr (9, [.int 1, .ref k1, .int sd, .ref k2, .ref k3, .int ln, .int at0, .int pt, .int mi, .int nu, .long ha]))]] : List va_W).flatten := hD
  refine W.eq (g2 := F0 Mi 21 ls [.int (m_z01 1)]) rfl ?_
  refine lv_if_eq (tgt := 34) hx hb dX10_setThreshold_21 (by decide) (fun _ => ?_) (fun h9 => absurd ((by decide)) h9)
  refine lv_iconst (v := 0) hx hb dX10_setThreshold_34 (by decide) ?_
  have hP : va_P E.1 vwCl ([[(h0, .inr (9, [.int 1, .ref k1, .int sd, .ref k2, .ref k3, .int ln, .int at0, .int pt, .int mi, .int nu, .long ha]))], [(k1, .inl (E.2 0, 1160, .inl sv))]] : List va_W).flatten H := zf_sub hP [1, 0] rfl
  have hD : va_D A ([[(h0, .inr (9, [.int 1, .ref k1, .int sd, .ref k2, .ref k3, .int ln, .int at0, .int pt, .int mi, .int nu, .long ha]))], [(k1, .inl (E.2 0, 1160, .inl sv))]] : List va_W).flatten := zf_subD hD [1, 0] (by decide) rfl
  exact W.iret (v := 0) hx hb hr (z_end hP hD hS rfl) hS.2.2 dX10_setThreshold_35 hlocks

set_option maxHeartbeats 4000000 in
set_option maxRecDepth 100000 in
theorem c_X10_setThreshold_y (l : Launch) (E : zE) (h0 k1 k2 k3 : Nat) (th sd ln at0 pt mi nu : Int32) (ha : Int64) (sv : Nat → Int32) (x : Int32) (d : Nat) (hsd : sd = nI d) (hd : d ≤ 6) (hok : m_in x 10 500 = 1) : zM l yX10_setThreshold wsX10_setThreshold ({ frames := 3, cells := 0, slots := 0, locals := 67 }) E [.ref h0, .int x] ([[(h0, .inr (9, [.int th, .ref k1, .int sd, .ref k2, .ref k3, .int ln, .int at0, .int pt, .int mi, .int nu, .long ha]))], [(k1, .inl (E.2 0, 1160, .inl sv))]] : List va_W).flatten (some (.int (sv 10))) ([[(h0, .inr (9, [.int 0, .ref k1, .int (nI (m_svC d)), .ref k2, .ref k3, .int ln, .int at0, .int pt, .int mi, .int nu, .long ha]))], [(k1, .inl (E.2 0, 1160, .inl (upd (m_svA sv d) 10 x)))]] : List va_W).flatten 0 0 := by
  refine z_start (cc := cX10_setThreshold) (maxL := 2) (ret := (some .int)) (by decide) rfl (Nat.le_of_ble_eq_true rfl) ?_
  intro Pg En s Mi below meth Cd A hx hb hr hts hown hlocks hin hml hA H hH hP hK hD hS ls hl
  have hl : lv_has ls 2 [(0, .ref h0), (1, .int x)] := hl
  refine lv_aload_n hx hb dX10_setThreshold_0 rfl (lv_at hl 0 rfl) ?_
  refine lv_iload_n hx hb dX10_setThreshold_1 rfl (lv_at hl 1 rfl) ?_
  refine lv_bipush (v := 10) hx hb dX10_setThreshold_2 (by decide) ?_
  refine lv_sipush (v := 500) hx hb dX10_setThreshold_4 (by decide) ?_
  refine z_rdv (va_runS (As := [.int x, .int 10, .int 500]) (rest := [.ref h0]) ⟨hx, hb, hml, hown, hts⟩ (c_X10_in l E x 10 500) (va_cwS 3 hts gX10_setThreshold_X10_in rfl rfl rfl (by decide +kernel) ⟨Nat.le_of_ble_eq_true rfl, Nat.le_of_ble_eq_true rfl⟩) ⟨zPr.blind, z_prer hK zP_nil⟩ rfl rfl hl.1 rfl (lv_room (Nat.le_of_ble_eq_true rfl)) dX10_setThreshold_7 ⟨Nat.le_of_ble_eq_true rfl, Nat.le_of_ble_eq_true rfl⟩) ?_
  refine W.eq (g2 := F0 Mi 10 ls [.int (m_in x 10 500), .ref h0]) rfl ?_
  refine lv_if_eq (tgt := 17) hx hb dX10_setThreshold_10 (by decide) (fun h9 => absurd h9 ((by rw [hok]; decide))) (fun _ => ?_)
  refine lv_iconst (v := 0) hx hb dX10_setThreshold_13 (by decide) ?_
  refine lv_goto (tgt := 18) hx hb dX10_setThreshold_14 (by decide) ?_
  have hPc : va_P E.1 vwCl ([[(h0, .inr (9, [.int th, .ref k1, .int sd, .ref k2, .ref k3, .int ln, .int at0, .int pt, .int mi, .int nu, .long ha]))]] : List va_W).flatten H := zf_sub hP [0] rfl
  have hDc : va_D A ([[(h0, .inr (9, [.int th, .ref k1, .int sd, .ref k2, .ref k3, .int ln, .int at0, .int pt, .int mi, .int nu, .long ha]))]] : List va_W).flatten := zf_subD hD [0] (by decide) rfl
  refine z_mut (Sc := [[(h0, .inr (9, [.int th, .ref k1, .int sd, .ref k2, .ref k3, .int ln, .int at0, .int pt, .int mi, .int nu, .long ha]))]]) (Sr := [[(k1, .inl (E.2 0, 1160, .inl sv))]]) (W1 := [[(h0, .inr (9, [.int 0, .ref k1, .int sd, .ref k2, .ref k3, .int ln, .int at0, .int pt, .int mi, .int nu, .long ha]))]]) (va_runV (As := [.int 0]) (rest := []) ⟨hx, hb, hml, hown, hts⟩ (c_X10_holds l E h0 k1 k2 k3 th sd ln at0 pt mi nu ha 0 H.size) (cwV 1 hts gX10_setThreshold_X10_holds rfl rfl rfl (by decide +kernel) ⟨Nat.le_of_ble_eq_true rfl, Nat.le_of_ble_eq_true rfl⟩) ⟨zP.blind, va_recv hK.1 hPc (ci := 9) (q0 := 0) rfl rfl, z_pre hK hPc hDc⟩ rfl rfl hl.1 rfl (lv_room (Nat.le_of_ble_eq_true rfl)) dX10_setThreshold_18 ⟨Nat.le_of_ble_eq_true rfl, Nat.le_of_ble_eq_true rfl⟩) hP hD hS hA [0] [1] rfl rfl (by decide) (by decide) (fun H locs hP hD hS => ?_)
  have hP : va_P E.1 vwCl ([[(k1, .inl (E.2 0, 1160, .inl sv))], [(h0, .inr (9, [.int 0, .ref k1, .int sd, .ref k2, .ref k3, .int ln, .int at0, .int pt, .int mi, .int nu, .long ha]))]] : List va_W).flatten H := hP
  have hD : va_D A ([[(k1, .inl (E.2 0, 1160, .inl sv))], [(h0, .inr (9, [.int 0, .ref k1, .int sd, .ref k2, .ref k3, .int ln, .int at0, .int pt, .int mi, .int nu, .long ha]))]] : List va_W).flatten := hD
  refine W.eq (g2 := F0 Mi 21 ls [.int (m_z01 0)]) rfl ?_
  refine lv_if_eq (tgt := 34) hx hb dX10_setThreshold_21 (by decide) (fun h9 => absurd h9 ((by decide))) (fun _ => ?_)
  refine lv_aload_n hx hb dX10_setThreshold_24 rfl (lv_at hl 0 rfl) ?_
  refine lv_bipush (v := 10) hx hb dX10_setThreshold_25 (by decide) ?_
  refine lv_iload_n hx hb dX10_setThreshold_27 rfl (lv_at hl 1 rfl) ?_
  have hPc : va_P E.1 vwCl ([[(h0, .inr (9, [.int 0, .ref k1, .int sd, .ref k2, .ref k3, .int ln, .int at0, .int pt, .int mi, .int nu, .long ha]))], [(k1, .inl (E.2 0, 1160, .inl sv))]] : List va_W).flatten H := zf_sub hP [1, 0] rfl
  have hDc : va_D A ([[(h0, .inr (9, [.int 0, .ref k1, .int sd, .ref k2, .ref k3, .int ln, .int at0, .int pt, .int mi, .int nu, .long ha]))], [(k1, .inl (E.2 0, 1160, .inl sv))]] : List va_W).flatten := zf_subD hD [1, 0] (by decide) rfl
  refine z_mut (Sc := [[(h0, .inr (9, [.int 0, .ref k1, .int sd, .ref k2, .ref k3, .int ln, .int at0, .int pt, .int mi, .int nu, .long ha]))], [(k1, .inl (E.2 0, 1160, .inl sv))]]) (Sr := []) (W1 := [[(h0, .inr (9, [.int 0, .ref k1, .int (nI (m_svC d)), .ref k2, .ref k3, .int ln, .int at0, .int pt, .int mi, .int nu, .long ha]))], [(k1, .inl (E.2 0, 1160, .inl (upd (m_svA sv d) 10 x)))]]) (va_runV (As := [.int 10, .int x]) (rest := []) ⟨hx, hb, hml, hown, hts⟩ (c_X10_changed l E h0 k1 k2 k3 0 sd ln at0 pt mi nu ha sv d hsd hd 10 x 10 rfl (by decide) H.size) (cwV 2 hts gX10_setThreshold_X10_changed rfl rfl rfl (by decide +kernel) ⟨Nat.le_of_ble_eq_true rfl, Nat.le_of_ble_eq_true rfl⟩) ⟨zP.blind, va_recv hK.1 hPc (ci := 9) (q0 := 0) rfl rfl, z_pre hK hPc hDc⟩ rfl rfl hl.1 rfl (lv_room (Nat.le_of_ble_eq_true rfl)) dX10_setThreshold_28 ⟨Nat.le_of_ble_eq_true rfl, Nat.le_of_ble_eq_true rfl⟩) hP hD hS hA [1, 0] [] rfl rfl (by decide) (by decide) (fun H locs hP hD hS => ?_)
  have hP : va_P E.1 vwCl ([[(h0, .inr (9, [.int 0, .ref k1, .int (nI (m_svC d)), .ref k2, .ref k3, .int ln, .int at0, .int pt, .int mi, .int nu, .long ha]))], [(k1, .inl (E.2 0, 1160, .inl (upd (m_svA sv d) 10 x)))]] : List va_W).flatten H := hP
  have hD : va_D A ([[(h0, .inr (9, [.int 0, .ref k1, .int (nI (m_svC d)), .ref k2, .ref k3, .int ln, .int at0, .int pt, .int mi, .int nu, .long ha]))], [(k1, .inl (E.2 0, 1160, .inl (upd (m_svA sv d) 10 x)))]] : List va_W).flatten := hD
  refine W.eq (g2 := F0 Mi 31 ls [.int (sv 10)]) rfl ?_
  refine lv_goto (tgt := 35) hx hb dX10_setThreshold_31 (by decide) ?_
  have hP : va_P E.1 vwCl ([[(h0, .inr (9, [.int 0, .ref k1, .int (nI (m_svC d)), .ref k2, .ref k3, .int ln, .int at0, .int pt, .int mi, .int nu, .long ha]))], [(k1, .inl (E.2 0, 1160, .inl (upd (m_svA sv d) 10 x)))]] : List va_W).flatten H := zf_sub hP [0, 1] rfl
  have hD : va_D A ([[(h0, .inr (9, [.int 0, .ref k1, .int (nI (m_svC d)), .ref k2, .ref k3, .int ln, .int at0, .int pt, .int mi, .int nu, .long ha]))], [(k1, .inl (E.2 0, 1160, .inl (upd (m_svA sv d) 10 x)))]] : List va_W).flatten := zf_subD hD [0, 1] (by decide) rfl
  exact W.iret (v := (sv 10)) hx hb hr (z_end hP hD hS rfl) hS.2.2 dX10_setThreshold_35 hlocks

set_option maxHeartbeats 4000000 in
set_option maxRecDepth 100000 in
theorem c_X10_setAlarm_n (l : Launch) (E : zE) (h0 k1 k2 k3 : Nat) (th sd ln at0 pt mi nu : Int32) (ha : Int64) (sv : Nat → Int32) (x : Int32) (hok : m_in x 10 200 = 0) : zM l yX10_setAlarm wsX10_setAlarm ({ frames := 1, cells := 0, slots := 0, locals := 22 }) E [.ref h0, .int x] ([[(h0, .inr (9, [.int th, .ref k1, .int sd, .ref k2, .ref k3, .int ln, .int at0, .int pt, .int mi, .int nu, .long ha]))], [(k1, .inl (E.2 0, 1160, .inl sv))]] : List va_W).flatten (some (.int 0)) ([[(h0, .inr (9, [.int 1, .ref k1, .int sd, .ref k2, .ref k3, .int ln, .int at0, .int pt, .int mi, .int nu, .long ha]))], [(k1, .inl (E.2 0, 1160, .inl sv))]] : List va_W).flatten 0 0 := by
  refine z_start (cc := cX10_setAlarm) (maxL := 2) (ret := (some .int)) (by decide) rfl (Nat.le_of_ble_eq_true rfl) ?_
  intro Pg En s Mi below meth Cd A hx hb hr hts hown hlocks hin hml hA H hH hP hK hD hS ls hl
  have hl : lv_has ls 2 [(0, .ref h0), (1, .int x)] := hl
  refine lv_aload_n hx hb dX10_setAlarm_0 rfl (lv_at hl 0 rfl) ?_
  refine lv_iload_n hx hb dX10_setAlarm_1 rfl (lv_at hl 1 rfl) ?_
  refine lv_bipush (v := 10) hx hb dX10_setAlarm_2 (by decide) ?_
  refine lv_sipush (v := 200) hx hb dX10_setAlarm_4 (by decide) ?_
  refine z_rdv (va_runS (As := [.int x, .int 10, .int 200]) (rest := [.ref h0]) ⟨hx, hb, hml, hown, hts⟩ (c_X10_in l E x 10 200) (va_cwS 3 hts gX10_setAlarm_X10_in rfl rfl rfl (by decide +kernel) ⟨Nat.le_of_ble_eq_true rfl, Nat.le_of_ble_eq_true rfl⟩) ⟨zPr.blind, z_prer hK zP_nil⟩ rfl rfl hl.1 rfl (lv_room (Nat.le_of_ble_eq_true rfl)) dX10_setAlarm_7 ⟨Nat.le_of_ble_eq_true rfl, Nat.le_of_ble_eq_true rfl⟩) ?_
  refine W.eq (g2 := F0 Mi 10 ls [.int (m_in x 10 200), .ref h0]) rfl ?_
  refine lv_if_eq (tgt := 17) hx hb dX10_setAlarm_10 (by decide) (fun _ => ?_) (fun h9 => absurd (hok) h9)
  refine lv_iconst (v := 1) hx hb dX10_setAlarm_17 (by decide) ?_
  have hPc : va_P E.1 vwCl ([[(h0, .inr (9, [.int th, .ref k1, .int sd, .ref k2, .ref k3, .int ln, .int at0, .int pt, .int mi, .int nu, .long ha]))]] : List va_W).flatten H := zf_sub hP [0] rfl
  have hDc : va_D A ([[(h0, .inr (9, [.int th, .ref k1, .int sd, .ref k2, .ref k3, .int ln, .int at0, .int pt, .int mi, .int nu, .long ha]))]] : List va_W).flatten := zf_subD hD [0] (by decide) rfl
  refine z_mut (Sc := [[(h0, .inr (9, [.int th, .ref k1, .int sd, .ref k2, .ref k3, .int ln, .int at0, .int pt, .int mi, .int nu, .long ha]))]]) (Sr := [[(k1, .inl (E.2 0, 1160, .inl sv))]]) (W1 := [[(h0, .inr (9, [.int 1, .ref k1, .int sd, .ref k2, .ref k3, .int ln, .int at0, .int pt, .int mi, .int nu, .long ha]))]]) (va_runV (As := [.int 1]) (rest := []) ⟨hx, hb, hml, hown, hts⟩ (c_X10_holds l E h0 k1 k2 k3 th sd ln at0 pt mi nu ha 1 H.size) (cwV 1 hts gX10_setAlarm_X10_holds rfl rfl rfl (by decide +kernel) ⟨Nat.le_of_ble_eq_true rfl, Nat.le_of_ble_eq_true rfl⟩) ⟨zP.blind, va_recv hK.1 hPc (ci := 9) (q0 := 0) rfl rfl, z_pre hK hPc hDc⟩ rfl rfl hl.1 rfl (lv_room (Nat.le_of_ble_eq_true rfl)) dX10_setAlarm_18 ⟨Nat.le_of_ble_eq_true rfl, Nat.le_of_ble_eq_true rfl⟩) hP hD hS hA [0] [1] rfl rfl (by decide) (by decide) (fun H locs hP hD hS => ?_)
  have hP : va_P E.1 vwCl ([[(k1, .inl (E.2 0, 1160, .inl sv))], [(h0, .inr (9, [.int 1, .ref k1, .int sd, .ref k2, .ref k3, .int ln, .int at0, .int pt, .int mi, .int nu, .long ha]))]] : List va_W).flatten H := hP
  have hD : va_D A ([[(k1, .inl (E.2 0, 1160, .inl sv))], [(h0, .inr (9, [.int 1, .ref k1, .int sd, .ref k2, .ref k3, .int ln, .int at0, .int pt, .int mi, .int nu, .long ha]))]] : List va_W).flatten := hD
  refine W.eq (g2 := F0 Mi 21 ls [.int (m_z01 1)]) rfl ?_
  refine lv_if_eq (tgt := 34) hx hb dX10_setAlarm_21 (by decide) (fun _ => ?_) (fun h9 => absurd ((by decide)) h9)
  refine lv_iconst (v := 0) hx hb dX10_setAlarm_34 (by decide) ?_
  have hP : va_P E.1 vwCl ([[(h0, .inr (9, [.int 1, .ref k1, .int sd, .ref k2, .ref k3, .int ln, .int at0, .int pt, .int mi, .int nu, .long ha]))], [(k1, .inl (E.2 0, 1160, .inl sv))]] : List va_W).flatten H := zf_sub hP [1, 0] rfl
  have hD : va_D A ([[(h0, .inr (9, [.int 1, .ref k1, .int sd, .ref k2, .ref k3, .int ln, .int at0, .int pt, .int mi, .int nu, .long ha]))], [(k1, .inl (E.2 0, 1160, .inl sv))]] : List va_W).flatten := zf_subD hD [1, 0] (by decide) rfl
  exact W.iret (v := 0) hx hb hr (z_end hP hD hS rfl) hS.2.2 dX10_setAlarm_35 hlocks

set_option maxHeartbeats 4000000 in
set_option maxRecDepth 100000 in
theorem c_X10_setAlarm_y (l : Launch) (E : zE) (h0 k1 k2 k3 : Nat) (th sd ln at0 pt mi nu : Int32) (ha : Int64) (sv : Nat → Int32) (x : Int32) (d : Nat) (hsd : sd = nI d) (hd : d ≤ 6) (hok : m_in x 10 200 = 1) : zM l yX10_setAlarm wsX10_setAlarm ({ frames := 3, cells := 0, slots := 0, locals := 67 }) E [.ref h0, .int x] ([[(h0, .inr (9, [.int th, .ref k1, .int sd, .ref k2, .ref k3, .int ln, .int at0, .int pt, .int mi, .int nu, .long ha]))], [(k1, .inl (E.2 0, 1160, .inl sv))]] : List va_W).flatten (some (.int (sv 11))) ([[(h0, .inr (9, [.int 0, .ref k1, .int (nI (m_svC d)), .ref k2, .ref k3, .int ln, .int at0, .int pt, .int mi, .int nu, .long ha]))], [(k1, .inl (E.2 0, 1160, .inl (upd (m_svA sv d) 11 x)))]] : List va_W).flatten 0 0 := by
  refine z_start (cc := cX10_setAlarm) (maxL := 2) (ret := (some .int)) (by decide) rfl (Nat.le_of_ble_eq_true rfl) ?_
  intro Pg En s Mi below meth Cd A hx hb hr hts hown hlocks hin hml hA H hH hP hK hD hS ls hl
  have hl : lv_has ls 2 [(0, .ref h0), (1, .int x)] := hl
  refine lv_aload_n hx hb dX10_setAlarm_0 rfl (lv_at hl 0 rfl) ?_
  refine lv_iload_n hx hb dX10_setAlarm_1 rfl (lv_at hl 1 rfl) ?_
  refine lv_bipush (v := 10) hx hb dX10_setAlarm_2 (by decide) ?_
  refine lv_sipush (v := 200) hx hb dX10_setAlarm_4 (by decide) ?_
  refine z_rdv (va_runS (As := [.int x, .int 10, .int 200]) (rest := [.ref h0]) ⟨hx, hb, hml, hown, hts⟩ (c_X10_in l E x 10 200) (va_cwS 3 hts gX10_setAlarm_X10_in rfl rfl rfl (by decide +kernel) ⟨Nat.le_of_ble_eq_true rfl, Nat.le_of_ble_eq_true rfl⟩) ⟨zPr.blind, z_prer hK zP_nil⟩ rfl rfl hl.1 rfl (lv_room (Nat.le_of_ble_eq_true rfl)) dX10_setAlarm_7 ⟨Nat.le_of_ble_eq_true rfl, Nat.le_of_ble_eq_true rfl⟩) ?_
  refine W.eq (g2 := F0 Mi 10 ls [.int (m_in x 10 200), .ref h0]) rfl ?_
  refine lv_if_eq (tgt := 17) hx hb dX10_setAlarm_10 (by decide) (fun h9 => absurd h9 ((by rw [hok]; decide))) (fun _ => ?_)
  refine lv_iconst (v := 0) hx hb dX10_setAlarm_13 (by decide) ?_
  refine lv_goto (tgt := 18) hx hb dX10_setAlarm_14 (by decide) ?_
  have hPc : va_P E.1 vwCl ([[(h0, .inr (9, [.int th, .ref k1, .int sd, .ref k2, .ref k3, .int ln, .int at0, .int pt, .int mi, .int nu, .long ha]))]] : List va_W).flatten H := zf_sub hP [0] rfl
  have hDc : va_D A ([[(h0, .inr (9, [.int th, .ref k1, .int sd, .ref k2, .ref k3, .int ln, .int at0, .int pt, .int mi, .int nu, .long ha]))]] : List va_W).flatten := zf_subD hD [0] (by decide) rfl
  refine z_mut (Sc := [[(h0, .inr (9, [.int th, .ref k1, .int sd, .ref k2, .ref k3, .int ln, .int at0, .int pt, .int mi, .int nu, .long ha]))]]) (Sr := [[(k1, .inl (E.2 0, 1160, .inl sv))]]) (W1 := [[(h0, .inr (9, [.int 0, .ref k1, .int sd, .ref k2, .ref k3, .int ln, .int at0, .int pt, .int mi, .int nu, .long ha]))]]) (va_runV (As := [.int 0]) (rest := []) ⟨hx, hb, hml, hown, hts⟩ (c_X10_holds l E h0 k1 k2 k3 th sd ln at0 pt mi nu ha 0 H.size) (cwV 1 hts gX10_setAlarm_X10_holds rfl rfl rfl (by decide +kernel) ⟨Nat.le_of_ble_eq_true rfl, Nat.le_of_ble_eq_true rfl⟩) ⟨zP.blind, va_recv hK.1 hPc (ci := 9) (q0 := 0) rfl rfl, z_pre hK hPc hDc⟩ rfl rfl hl.1 rfl (lv_room (Nat.le_of_ble_eq_true rfl)) dX10_setAlarm_18 ⟨Nat.le_of_ble_eq_true rfl, Nat.le_of_ble_eq_true rfl⟩) hP hD hS hA [0] [1] rfl rfl (by decide) (by decide) (fun H locs hP hD hS => ?_)
  have hP : va_P E.1 vwCl ([[(k1, .inl (E.2 0, 1160, .inl sv))], [(h0, .inr (9, [.int 0, .ref k1, .int sd, .ref k2, .ref k3, .int ln, .int at0, .int pt, .int mi, .int nu, .long ha]))]] : List va_W).flatten H := hP
  have hD : va_D A ([[(k1, .inl (E.2 0, 1160, .inl sv))], [(h0, .inr (9, [.int 0, .ref k1, .int sd, .ref k2, .ref k3, .int ln, .int at0, .int pt, .int mi, .int nu, .long ha]))]] : List va_W).flatten := hD
  refine W.eq (g2 := F0 Mi 21 ls [.int (m_z01 0)]) rfl ?_
  refine lv_if_eq (tgt := 34) hx hb dX10_setAlarm_21 (by decide) (fun h9 => absurd h9 ((by decide))) (fun _ => ?_)
  refine lv_aload_n hx hb dX10_setAlarm_24 rfl (lv_at hl 0 rfl) ?_
  refine lv_bipush (v := 11) hx hb dX10_setAlarm_25 (by decide) ?_
  refine lv_iload_n hx hb dX10_setAlarm_27 rfl (lv_at hl 1 rfl) ?_
  have hPc : va_P E.1 vwCl ([[(h0, .inr (9, [.int 0, .ref k1, .int sd, .ref k2, .ref k3, .int ln, .int at0, .int pt, .int mi, .int nu, .long ha]))], [(k1, .inl (E.2 0, 1160, .inl sv))]] : List va_W).flatten H := zf_sub hP [1, 0] rfl
  have hDc : va_D A ([[(h0, .inr (9, [.int 0, .ref k1, .int sd, .ref k2, .ref k3, .int ln, .int at0, .int pt, .int mi, .int nu, .long ha]))], [(k1, .inl (E.2 0, 1160, .inl sv))]] : List va_W).flatten := zf_subD hD [1, 0] (by decide) rfl
  refine z_mut (Sc := [[(h0, .inr (9, [.int 0, .ref k1, .int sd, .ref k2, .ref k3, .int ln, .int at0, .int pt, .int mi, .int nu, .long ha]))], [(k1, .inl (E.2 0, 1160, .inl sv))]]) (Sr := []) (W1 := [[(h0, .inr (9, [.int 0, .ref k1, .int (nI (m_svC d)), .ref k2, .ref k3, .int ln, .int at0, .int pt, .int mi, .int nu, .long ha]))], [(k1, .inl (E.2 0, 1160, .inl (upd (m_svA sv d) 11 x)))]]) (va_runV (As := [.int 11, .int x]) (rest := []) ⟨hx, hb, hml, hown, hts⟩ (c_X10_changed l E h0 k1 k2 k3 0 sd ln at0 pt mi nu ha sv d hsd hd 11 x 11 rfl (by decide) H.size) (cwV 2 hts gX10_setAlarm_X10_changed rfl rfl rfl (by decide +kernel) ⟨Nat.le_of_ble_eq_true rfl, Nat.le_of_ble_eq_true rfl⟩) ⟨zP.blind, va_recv hK.1 hPc (ci := 9) (q0 := 0) rfl rfl, z_pre hK hPc hDc⟩ rfl rfl hl.1 rfl (lv_room (Nat.le_of_ble_eq_true rfl)) dX10_setAlarm_28 ⟨Nat.le_of_ble_eq_true rfl, Nat.le_of_ble_eq_true rfl⟩) hP hD hS hA [1, 0] [] rfl rfl (by decide) (by decide) (fun H locs hP hD hS => ?_)
  have hP : va_P E.1 vwCl ([[(h0, .inr (9, [.int 0, .ref k1, .int (nI (m_svC d)), .ref k2, .ref k3, .int ln, .int at0, .int pt, .int mi, .int nu, .long ha]))], [(k1, .inl (E.2 0, 1160, .inl (upd (m_svA sv d) 11 x)))]] : List va_W).flatten H := hP
  have hD : va_D A ([[(h0, .inr (9, [.int 0, .ref k1, .int (nI (m_svC d)), .ref k2, .ref k3, .int ln, .int at0, .int pt, .int mi, .int nu, .long ha]))], [(k1, .inl (E.2 0, 1160, .inl (upd (m_svA sv d) 11 x)))]] : List va_W).flatten := hD
  refine W.eq (g2 := F0 Mi 31 ls [.int (sv 11)]) rfl ?_
  refine lv_goto (tgt := 35) hx hb dX10_setAlarm_31 (by decide) ?_
  have hP : va_P E.1 vwCl ([[(h0, .inr (9, [.int 0, .ref k1, .int (nI (m_svC d)), .ref k2, .ref k3, .int ln, .int at0, .int pt, .int mi, .int nu, .long ha]))], [(k1, .inl (E.2 0, 1160, .inl (upd (m_svA sv d) 11 x)))]] : List va_W).flatten H := zf_sub hP [0, 1] rfl
  have hD : va_D A ([[(h0, .inr (9, [.int 0, .ref k1, .int (nI (m_svC d)), .ref k2, .ref k3, .int ln, .int at0, .int pt, .int mi, .int nu, .long ha]))], [(k1, .inl (E.2 0, 1160, .inl (upd (m_svA sv d) 11 x)))]] : List va_W).flatten := zf_subD hD [0, 1] (by decide) rfl
  exact W.iret (v := (sv 11)) hx hb hr (z_end hP hD hS rfl) hS.2.2 dX10_setAlarm_35 hlocks

set_option maxHeartbeats 4000000 in
set_option maxRecDepth 100000 in
theorem c_X10_travel_n (l : Launch) (E : zE) (h0 k1 k2 k3 : Nat) (th sd ln at0 pt mi nu : Int32) (ha : Int64) (sv : Nat → Int32) (n p : Int32) (hok : m_trp n p = 0) : zM l yX10_travel wsX10_travel ({ frames := 2, cells := 0, slots := 0, locals := 43 }) E [.ref h0, .int n, .int p] ([[(h0, .inr (9, [.int th, .ref k1, .int sd, .ref k2, .ref k3, .int ln, .int at0, .int pt, .int mi, .int nu, .long ha]))], [(k1, .inl (E.2 0, 1160, .inl sv))]] : List va_W).flatten (some (.int 0)) ([[(h0, .inr (9, [.int 1, .ref k1, .int sd, .ref k2, .ref k3, .int ln, .int at0, .int pt, .int mi, .int nu, .long ha]))], [(k1, .inl (E.2 0, 1160, .inl sv))]] : List va_W).flatten 0 0 := by
  refine z_start (cc := cX10_travel) (maxL := 3) (ret := (some .int)) (by decide) rfl (Nat.le_of_ble_eq_true rfl) ?_
  intro Pg En s Mi below meth Cd A hx hb hr hts hown hlocks hin hml hA H hH hP hK hD hS ls hl
  have hl : lv_has ls 3 [(0, .ref h0), (1, .int n), (2, .int p)] := hl
  refine lv_aload_n hx hb dX10_travel_0 rfl (lv_at hl 0 rfl) ?_
  refine lv_iload_n hx hb dX10_travel_1 rfl (lv_at hl 1 rfl) ?_
  refine lv_iload_n hx hb dX10_travel_2 rfl (lv_at hl 2 rfl) ?_
  refine z_rdv (va_runS (As := [.int n, .int p]) (rest := [.ref h0]) ⟨hx, hb, hml, hown, hts⟩ (c_X10_isTrip l E n p) (va_cwS 2 hts gX10_travel_X10_isTrip rfl rfl rfl (by decide +kernel) ⟨Nat.le_of_ble_eq_true rfl, Nat.le_of_ble_eq_true rfl⟩) ⟨zPr.blind, z_prer hK zP_nil⟩ rfl rfl hl.1 rfl (lv_room (Nat.le_of_ble_eq_true rfl)) dX10_travel_3 ⟨Nat.le_of_ble_eq_true rfl, Nat.le_of_ble_eq_true rfl⟩) ?_
  refine W.eq (g2 := F0 Mi 6 ls [.int (m_trp n p), .ref h0]) rfl ?_
  refine lv_if_eq (tgt := 13) hx hb dX10_travel_6 (by decide) (fun _ => ?_) (fun h9 => absurd (hok) h9)
  refine lv_iconst (v := 1) hx hb dX10_travel_13 (by decide) ?_
  have hPc : va_P E.1 vwCl ([[(h0, .inr (9, [.int th, .ref k1, .int sd, .ref k2, .ref k3, .int ln, .int at0, .int pt, .int mi, .int nu, .long ha]))]] : List va_W).flatten H := zf_sub hP [0] rfl
  have hDc : va_D A ([[(h0, .inr (9, [.int th, .ref k1, .int sd, .ref k2, .ref k3, .int ln, .int at0, .int pt, .int mi, .int nu, .long ha]))]] : List va_W).flatten := zf_subD hD [0] (by decide) rfl
  refine z_mut (Sc := [[(h0, .inr (9, [.int th, .ref k1, .int sd, .ref k2, .ref k3, .int ln, .int at0, .int pt, .int mi, .int nu, .long ha]))]]) (Sr := [[(k1, .inl (E.2 0, 1160, .inl sv))]]) (W1 := [[(h0, .inr (9, [.int 1, .ref k1, .int sd, .ref k2, .ref k3, .int ln, .int at0, .int pt, .int mi, .int nu, .long ha]))]]) (va_runV (As := [.int 1]) (rest := []) ⟨hx, hb, hml, hown, hts⟩ (c_X10_holds l E h0 k1 k2 k3 th sd ln at0 pt mi nu ha 1 H.size) (cwV 1 hts gX10_travel_X10_holds rfl rfl rfl (by decide +kernel) ⟨Nat.le_of_ble_eq_true rfl, Nat.le_of_ble_eq_true rfl⟩) ⟨zP.blind, va_recv hK.1 hPc (ci := 9) (q0 := 0) rfl rfl, z_pre hK hPc hDc⟩ rfl rfl hl.1 rfl (lv_room (Nat.le_of_ble_eq_true rfl)) dX10_travel_14 ⟨Nat.le_of_ble_eq_true rfl, Nat.le_of_ble_eq_true rfl⟩) hP hD hS hA [0] [1] rfl rfl (by decide) (by decide) (fun H locs hP hD hS => ?_)
  have hP : va_P E.1 vwCl ([[(k1, .inl (E.2 0, 1160, .inl sv))], [(h0, .inr (9, [.int 1, .ref k1, .int sd, .ref k2, .ref k3, .int ln, .int at0, .int pt, .int mi, .int nu, .long ha]))]] : List va_W).flatten H := hP
  have hD : va_D A ([[(k1, .inl (E.2 0, 1160, .inl sv))], [(h0, .inr (9, [.int 1, .ref k1, .int sd, .ref k2, .ref k3, .int ln, .int at0, .int pt, .int mi, .int nu, .long ha]))]] : List va_W).flatten := hD
  refine W.eq (g2 := F0 Mi 17 ls [.int (m_z01 1)]) rfl ?_
  refine lv_if_ne (tgt := 22) hx hb dX10_travel_17 (by decide) (fun h9 => absurd h9 ((by decide))) (fun _ => ?_)
  refine lv_iconst (v := 0) hx hb dX10_travel_20 (by decide) ?_
  have hP : va_P E.1 vwCl ([[(h0, .inr (9, [.int 1, .ref k1, .int sd, .ref k2, .ref k3, .int ln, .int at0, .int pt, .int mi, .int nu, .long ha]))], [(k1, .inl (E.2 0, 1160, .inl sv))]] : List va_W).flatten H := zf_sub hP [1, 0] rfl
  have hD : va_D A ([[(h0, .inr (9, [.int 1, .ref k1, .int sd, .ref k2, .ref k3, .int ln, .int at0, .int pt, .int mi, .int nu, .long ha]))], [(k1, .inl (E.2 0, 1160, .inl sv))]] : List va_W).flatten := zf_subD hD [1, 0] (by decide) rfl
  exact W.iret (v := 0) hx hb hr (z_end hP hD hS rfl) hS.2.2 dX10_travel_21 hlocks

set_option maxHeartbeats 4000000 in
set_option maxRecDepth 100000 in
theorem c_X10_travel_y (l : Launch) (E : zE) (h0 k1 k2 k3 : Nat) (th sd ln at0 pt mi nu : Int32) (ha : Int64) (sv : Nat → Int32) (n p : Int32) (d : Nat) (hsd : sd = nI d) (hd : d ≤ 6) (m : Nat) (hm : sv 14 = nI m) (hm6 : m ≤ 60) (nn : Nat) (hn : n = nI nn) (hnn : nn ≤ 120) (hok : m_trp n p = 1) : zM l yX10_travel wsX10_travel ({ frames := 5, cells := 0, slots := 0, locals := 112 }) E [.ref h0, .int n, .int p] ([[(h0, .inr (9, [.int th, .ref k1, .int sd, .ref k2, .ref k3, .int ln, .int at0, .int pt, .int mi, .int nu, .long ha]))], [(k1, .inl (E.2 0, 1160, .inl sv))]] : List va_W).flatten (some (.int (m_std ((m_trA (m_svA sv d) 0 n p nn) (0 + 0)) - m_std ((m_trA (m_svA sv d) 0 n p nn) (0 + 1))))) ([[(h0, .inr (9, [.int 0, .ref k1, .int (nI (m_svC d)), .ref k2, .ref k3, .int ln, .int at0, .int pt, .int mi, .int nu, .long ha]))], [(k1, .inl (E.2 0, 1160, .inl (m_trA (m_svA sv d) 0 n p nn)))]] : List va_W).flatten 0 0 := by
  refine z_start (cc := cX10_travel) (maxL := 3) (ret := (some .int)) (by decide) rfl (Nat.le_of_ble_eq_true rfl) ?_
  intro Pg En s Mi below meth Cd A hx hb hr hts hown hlocks hin hml hA H hH hP hK hD hS ls hl
  have hl : lv_has ls 3 [(0, .ref h0), (1, .int n), (2, .int p)] := hl
  refine lv_aload_n hx hb dX10_travel_0 rfl (lv_at hl 0 rfl) ?_
  refine lv_iload_n hx hb dX10_travel_1 rfl (lv_at hl 1 rfl) ?_
  refine lv_iload_n hx hb dX10_travel_2 rfl (lv_at hl 2 rfl) ?_
  refine z_rdv (va_runS (As := [.int n, .int p]) (rest := [.ref h0]) ⟨hx, hb, hml, hown, hts⟩ (c_X10_isTrip l E n p) (va_cwS 2 hts gX10_travel_X10_isTrip rfl rfl rfl (by decide +kernel) ⟨Nat.le_of_ble_eq_true rfl, Nat.le_of_ble_eq_true rfl⟩) ⟨zPr.blind, z_prer hK zP_nil⟩ rfl rfl hl.1 rfl (lv_room (Nat.le_of_ble_eq_true rfl)) dX10_travel_3 ⟨Nat.le_of_ble_eq_true rfl, Nat.le_of_ble_eq_true rfl⟩) ?_
  refine W.eq (g2 := F0 Mi 6 ls [.int (m_trp n p), .ref h0]) rfl ?_
  refine lv_if_eq (tgt := 13) hx hb dX10_travel_6 (by decide) (fun h9 => absurd h9 ((by rw [hok]; decide))) (fun _ => ?_)
  refine lv_iconst (v := 0) hx hb dX10_travel_9 (by decide) ?_
  refine lv_goto (tgt := 14) hx hb dX10_travel_10 (by decide) ?_
  have hPc : va_P E.1 vwCl ([[(h0, .inr (9, [.int th, .ref k1, .int sd, .ref k2, .ref k3, .int ln, .int at0, .int pt, .int mi, .int nu, .long ha]))]] : List va_W).flatten H := zf_sub hP [0] rfl
  have hDc : va_D A ([[(h0, .inr (9, [.int th, .ref k1, .int sd, .ref k2, .ref k3, .int ln, .int at0, .int pt, .int mi, .int nu, .long ha]))]] : List va_W).flatten := zf_subD hD [0] (by decide) rfl
  refine z_mut (Sc := [[(h0, .inr (9, [.int th, .ref k1, .int sd, .ref k2, .ref k3, .int ln, .int at0, .int pt, .int mi, .int nu, .long ha]))]]) (Sr := [[(k1, .inl (E.2 0, 1160, .inl sv))]]) (W1 := [[(h0, .inr (9, [.int 0, .ref k1, .int sd, .ref k2, .ref k3, .int ln, .int at0, .int pt, .int mi, .int nu, .long ha]))]]) (va_runV (As := [.int 0]) (rest := []) ⟨hx, hb, hml, hown, hts⟩ (c_X10_holds l E h0 k1 k2 k3 th sd ln at0 pt mi nu ha 0 H.size) (cwV 1 hts gX10_travel_X10_holds rfl rfl rfl (by decide +kernel) ⟨Nat.le_of_ble_eq_true rfl, Nat.le_of_ble_eq_true rfl⟩) ⟨zP.blind, va_recv hK.1 hPc (ci := 9) (q0 := 0) rfl rfl, z_pre hK hPc hDc⟩ rfl rfl hl.1 rfl (lv_room (Nat.le_of_ble_eq_true rfl)) dX10_travel_14 ⟨Nat.le_of_ble_eq_true rfl, Nat.le_of_ble_eq_true rfl⟩) hP hD hS hA [0] [1] rfl rfl (by decide) (by decide) (fun H locs hP hD hS => ?_)
  have hP : va_P E.1 vwCl ([[(k1, .inl (E.2 0, 1160, .inl sv))], [(h0, .inr (9, [.int 0, .ref k1, .int sd, .ref k2, .ref k3, .int ln, .int at0, .int pt, .int mi, .int nu, .long ha]))]] : List va_W).flatten H := hP
  have hD : va_D A ([[(k1, .inl (E.2 0, 1160, .inl sv))], [(h0, .inr (9, [.int 0, .ref k1, .int sd, .ref k2, .ref k3, .int ln, .int at0, .int pt, .int mi, .int nu, .long ha]))]] : List va_W).flatten := hD
  refine W.eq (g2 := F0 Mi 17 ls [.int (m_z01 0)]) rfl ?_
  refine lv_if_ne (tgt := 22) hx hb dX10_travel_17 (by decide) (fun _ => ?_) (fun h9 => absurd h9 ((by decide)))
  refine lv_aload_n hx hb dX10_travel_22 rfl (lv_at hl 0 rfl) ?_
  have hPc : va_P E.1 vwCl ([[(h0, .inr (9, [.int 0, .ref k1, .int sd, .ref k2, .ref k3, .int ln, .int at0, .int pt, .int mi, .int nu, .long ha]))], [(k1, .inl (E.2 0, 1160, .inl sv))]] : List va_W).flatten H := zf_sub hP [1, 0] rfl
  have hDc : va_D A ([[(h0, .inr (9, [.int 0, .ref k1, .int sd, .ref k2, .ref k3, .int ln, .int at0, .int pt, .int mi, .int nu, .long ha]))], [(k1, .inl (E.2 0, 1160, .inl sv))]] : List va_W).flatten := zf_subD hD [1, 0] (by decide) rfl
  refine z_mut (Sc := [[(h0, .inr (9, [.int 0, .ref k1, .int sd, .ref k2, .ref k3, .int ln, .int at0, .int pt, .int mi, .int nu, .long ha]))], [(k1, .inl (E.2 0, 1160, .inl sv))]]) (Sr := []) (W1 := [[(h0, .inr (9, [.int 0, .ref k1, .int (nI (m_svC d)), .ref k2, .ref k3, .int ln, .int at0, .int pt, .int mi, .int nu, .long ha]))], [(k1, .inl (E.2 0, 1160, .inl (m_svA sv d)))]]) (va_runV (As := []) (rest := []) ⟨hx, hb, hml, hown, hts⟩ (c_X10_save l E h0 k1 k2 k3 0 sd ln at0 pt mi nu ha sv d hsd hd H.size) (cwV 0 hts gX10_travel_X10_save rfl rfl rfl (by decide +kernel) ⟨Nat.le_of_ble_eq_true rfl, Nat.le_of_ble_eq_true rfl⟩) ⟨zP.blind, va_recv hK.1 hPc (ci := 9) (q0 := 0) rfl rfl, z_pre hK hPc hDc⟩ rfl rfl hl.1 rfl (lv_room (Nat.le_of_ble_eq_true rfl)) dX10_travel_23 ⟨Nat.le_of_ble_eq_true rfl, Nat.le_of_ble_eq_true rfl⟩) hP hD hS hA [1, 0] [] rfl rfl (by decide) (by decide) (fun H locs hP hD hS => ?_)
  have hP : va_P E.1 vwCl ([[(h0, .inr (9, [.int 0, .ref k1, .int (nI (m_svC d)), .ref k2, .ref k3, .int ln, .int at0, .int pt, .int mi, .int nu, .long ha]))], [(k1, .inl (E.2 0, 1160, .inl (m_svA sv d)))]] : List va_W).flatten H := hP
  have hD : va_D A ([[(h0, .inr (9, [.int 0, .ref k1, .int (nI (m_svC d)), .ref k2, .ref k3, .int ln, .int at0, .int pt, .int mi, .int nu, .long ha]))], [(k1, .inl (E.2 0, 1160, .inl (m_svA sv d)))]] : List va_W).flatten := hD
  refine W.eq (g2 := F0 Mi 26 ls []) rfl ?_
  refine lv_aload_n hx hb dX10_travel_26 rfl (lv_at hl 0 rfl) ?_
  refine lv_iconst (v := 0) hx hb dX10_travel_27 (by decide) ?_
  refine lv_iload_n hx hb dX10_travel_28 rfl (lv_at hl 1 rfl) ?_
  refine lv_iload_n hx hb dX10_travel_29 rfl (lv_at hl 2 rfl) ?_
  have hPc : va_P E.1 vwCl ([[(h0, .inr (9, [.int 0, .ref k1, .int (nI (m_svC d)), .ref k2, .ref k3, .int ln, .int at0, .int pt, .int mi, .int nu, .long ha]))], [(k1, .inl (E.2 0, 1160, .inl (m_svA sv d)))]] : List va_W).flatten H := zf_sub hP [0, 1] rfl
  have hDc : va_D A ([[(h0, .inr (9, [.int 0, .ref k1, .int (nI (m_svC d)), .ref k2, .ref k3, .int ln, .int at0, .int pt, .int mi, .int nu, .long ha]))], [(k1, .inl (E.2 0, 1160, .inl (m_svA sv d)))]] : List va_W).flatten := zf_subD hD [0, 1] (by decide) rfl
  refine z_mut (Sc := [[(h0, .inr (9, [.int 0, .ref k1, .int (nI (m_svC d)), .ref k2, .ref k3, .int ln, .int at0, .int pt, .int mi, .int nu, .long ha]))], [(k1, .inl (E.2 0, 1160, .inl (m_svA sv d)))]]) (Sr := []) (W1 := [[(h0, .inr (9, [.int 0, .ref k1, .int (nI (m_svC d)), .ref k2, .ref k3, .int ln, .int at0, .int pt, .int mi, .int nu, .long ha]))], [(k1, .inl (E.2 0, 1160, .inl (m_trA (m_svA sv d) 0 n p nn)))]]) (va_runV (As := [.int 0, .int n, .int p]) (rest := []) ⟨hx, hb, hml, hown, hts⟩ (c_X10_trips l E h0 k1 k2 k3 0 (nI (m_svC d)) ln at0 pt mi nu ha 0 0 rfl (by omega) (m_svA sv d) m ((m_svA_lo (by decide)).trans hm) hm6 n p nn hn hnn H.size) (cwV 3 hts gX10_travel_X10_trips rfl rfl rfl (by decide +kernel) ⟨Nat.le_of_ble_eq_true rfl, Nat.le_of_ble_eq_true rfl⟩) ⟨zP.blind, va_recv hK.1 hPc (ci := 9) (q0 := 0) rfl rfl, z_pre hK hPc hDc⟩ rfl rfl hl.1 rfl (lv_room (Nat.le_of_ble_eq_true rfl)) dX10_travel_30 ⟨Nat.le_of_ble_eq_true rfl, Nat.le_of_ble_eq_true rfl⟩) hP hD hS hA [0, 1] [] rfl rfl (by decide) (by decide) (fun H locs hP hD hS => ?_)
  have hP : va_P E.1 vwCl ([[(h0, .inr (9, [.int 0, .ref k1, .int (nI (m_svC d)), .ref k2, .ref k3, .int ln, .int at0, .int pt, .int mi, .int nu, .long ha]))], [(k1, .inl (E.2 0, 1160, .inl (m_trA (m_svA sv d) 0 n p nn)))]] : List va_W).flatten H := hP
  have hD : va_D A ([[(h0, .inr (9, [.int 0, .ref k1, .int (nI (m_svC d)), .ref k2, .ref k3, .int ln, .int at0, .int pt, .int mi, .int nu, .long ha]))], [(k1, .inl (E.2 0, 1160, .inl (m_trA (m_svA sv d) 0 n p nn)))]] : List va_W).flatten := hD
  refine W.eq (g2 := F0 Mi 33 ls []) rfl ?_
  refine lv_aload_n hx hb dX10_travel_33 rfl (lv_at hl 0 rfl) ?_
  refine lv_iconst (v := 0) hx hb dX10_travel_34 (by decide) ?_
  have hPc : va_P E.1 vwCl ([[(h0, .inr (9, [.int 0, .ref k1, .int (nI (m_svC d)), .ref k2, .ref k3, .int ln, .int at0, .int pt, .int mi, .int nu, .long ha]))], [(k1, .inl (E.2 0, 1160, .inl (m_trA (m_svA sv d) 0 n p nn)))]] : List va_W).flatten H := zf_sub hP [0, 1] rfl
  refine z_rdv (va_runV (As := [.int 0]) (rest := []) ⟨hx, hb, hml, hown, hts⟩ (c_X10_altitudeAt l E h0 k1 k2 k3 0 (nI (m_svC d)) ln at0 pt mi nu ha 0 0 rfl (by omega) (m_trA (m_svA sv d) 0 n p nn)) (cwV 1 hts gX10_travel_X10_altitudeAt rfl rfl rfl (by decide +kernel) ⟨Nat.le_of_ble_eq_true rfl, Nat.le_of_ble_eq_true rfl⟩) ⟨zPr.blind, va_recv hK.1 hPc (ci := 9) (q0 := 0) rfl rfl, z_prer hK hPc⟩ rfl rfl hl.1 rfl (lv_room (Nat.le_of_ble_eq_true rfl)) dX10_travel_35 ⟨Nat.le_of_ble_eq_true rfl, Nat.le_of_ble_eq_true rfl⟩) ?_
  refine W.eq (g2 := F0 Mi 38 ls [.int (m_std ((m_trA (m_svA sv d) 0 n p nn) (0 + 0)) - m_std ((m_trA (m_svA sv d) 0 n p nn) (0 + 1)))]) rfl ?_
  have hP : va_P E.1 vwCl ([[(h0, .inr (9, [.int 0, .ref k1, .int (nI (m_svC d)), .ref k2, .ref k3, .int ln, .int at0, .int pt, .int mi, .int nu, .long ha]))], [(k1, .inl (E.2 0, 1160, .inl (m_trA (m_svA sv d) 0 n p nn)))]] : List va_W).flatten H := zf_sub hP [0, 1] rfl
  have hD : va_D A ([[(h0, .inr (9, [.int 0, .ref k1, .int (nI (m_svC d)), .ref k2, .ref k3, .int ln, .int at0, .int pt, .int mi, .int nu, .long ha]))], [(k1, .inl (E.2 0, 1160, .inl (m_trA (m_svA sv d) 0 n p nn)))]] : List va_W).flatten := zf_subD hD [0, 1] (by decide) rfl
  exact W.iret (v := (m_std ((m_trA (m_svA sv d) 0 n p nn) (0 + 0)) - m_std ((m_trA (m_svA sv d) 0 n p nn) (0 + 1)))) hx hb hr (z_end hP hD hS rfl) hS.2.2 dX10_travel_38 hlocks

set_option maxHeartbeats 4000000 in
set_option maxRecDepth 100000 in
theorem c_X10_altitudeAfter_n (l : Launch) (E : zE) (h0 k1 k2 k3 : Nat) (th sd ln at0 pt mi nu : Int32) (ha : Int64) (sv : Nat → Int32) (n p : Int32) (hok : m_trp n p = 0) : zM l yX10_altitudeAfter wsX10_altitudeAfter ({ frames := 2, cells := 0, slots := 0, locals := 43 }) E [.ref h0, .int n, .int p] ([[(h0, .inr (9, [.int th, .ref k1, .int sd, .ref k2, .ref k3, .int ln, .int at0, .int pt, .int mi, .int nu, .long ha]))], [(k1, .inl (E.2 0, 1160, .inl sv))]] : List va_W).flatten (some (.int 0)) ([[(h0, .inr (9, [.int 1, .ref k1, .int sd, .ref k2, .ref k3, .int ln, .int at0, .int pt, .int mi, .int nu, .long ha]))], [(k1, .inl (E.2 0, 1160, .inl sv))]] : List va_W).flatten 0 0 := by
  refine z_start (cc := cX10_altitudeAfter) (maxL := 3) (ret := (some .int)) (by decide) rfl (Nat.le_of_ble_eq_true rfl) ?_
  intro Pg En s Mi below meth Cd A hx hb hr hts hown hlocks hin hml hA H hH hP hK hD hS ls hl
  have hl : lv_has ls 3 [(0, .ref h0), (1, .int n), (2, .int p)] := hl
  refine lv_aload_n hx hb dX10_altitudeAfter_0 rfl (lv_at hl 0 rfl) ?_
  refine lv_iload_n hx hb dX10_altitudeAfter_1 rfl (lv_at hl 1 rfl) ?_
  refine lv_iload_n hx hb dX10_altitudeAfter_2 rfl (lv_at hl 2 rfl) ?_
  refine z_rdv (va_runS (As := [.int n, .int p]) (rest := [.ref h0]) ⟨hx, hb, hml, hown, hts⟩ (c_X10_isTrip l E n p) (va_cwS 2 hts gX10_altitudeAfter_X10_isTrip rfl rfl rfl (by decide +kernel) ⟨Nat.le_of_ble_eq_true rfl, Nat.le_of_ble_eq_true rfl⟩) ⟨zPr.blind, z_prer hK zP_nil⟩ rfl rfl hl.1 rfl (lv_room (Nat.le_of_ble_eq_true rfl)) dX10_altitudeAfter_3 ⟨Nat.le_of_ble_eq_true rfl, Nat.le_of_ble_eq_true rfl⟩) ?_
  refine W.eq (g2 := F0 Mi 6 ls [.int (m_trp n p), .ref h0]) rfl ?_
  refine lv_if_eq (tgt := 13) hx hb dX10_altitudeAfter_6 (by decide) (fun _ => ?_) (fun h9 => absurd (hok) h9)
  refine lv_iconst (v := 1) hx hb dX10_altitudeAfter_13 (by decide) ?_
  have hPc : va_P E.1 vwCl ([[(h0, .inr (9, [.int th, .ref k1, .int sd, .ref k2, .ref k3, .int ln, .int at0, .int pt, .int mi, .int nu, .long ha]))]] : List va_W).flatten H := zf_sub hP [0] rfl
  have hDc : va_D A ([[(h0, .inr (9, [.int th, .ref k1, .int sd, .ref k2, .ref k3, .int ln, .int at0, .int pt, .int mi, .int nu, .long ha]))]] : List va_W).flatten := zf_subD hD [0] (by decide) rfl
  refine z_mut (Sc := [[(h0, .inr (9, [.int th, .ref k1, .int sd, .ref k2, .ref k3, .int ln, .int at0, .int pt, .int mi, .int nu, .long ha]))]]) (Sr := [[(k1, .inl (E.2 0, 1160, .inl sv))]]) (W1 := [[(h0, .inr (9, [.int 1, .ref k1, .int sd, .ref k2, .ref k3, .int ln, .int at0, .int pt, .int mi, .int nu, .long ha]))]]) (va_runV (As := [.int 1]) (rest := []) ⟨hx, hb, hml, hown, hts⟩ (c_X10_holds l E h0 k1 k2 k3 th sd ln at0 pt mi nu ha 1 H.size) (cwV 1 hts gX10_altitudeAfter_X10_holds rfl rfl rfl (by decide +kernel) ⟨Nat.le_of_ble_eq_true rfl, Nat.le_of_ble_eq_true rfl⟩) ⟨zP.blind, va_recv hK.1 hPc (ci := 9) (q0 := 0) rfl rfl, z_pre hK hPc hDc⟩ rfl rfl hl.1 rfl (lv_room (Nat.le_of_ble_eq_true rfl)) dX10_altitudeAfter_14 ⟨Nat.le_of_ble_eq_true rfl, Nat.le_of_ble_eq_true rfl⟩) hP hD hS hA [0] [1] rfl rfl (by decide) (by decide) (fun H locs hP hD hS => ?_)
  have hP : va_P E.1 vwCl ([[(k1, .inl (E.2 0, 1160, .inl sv))], [(h0, .inr (9, [.int 1, .ref k1, .int sd, .ref k2, .ref k3, .int ln, .int at0, .int pt, .int mi, .int nu, .long ha]))]] : List va_W).flatten H := hP
  have hD : va_D A ([[(k1, .inl (E.2 0, 1160, .inl sv))], [(h0, .inr (9, [.int 1, .ref k1, .int sd, .ref k2, .ref k3, .int ln, .int at0, .int pt, .int mi, .int nu, .long ha]))]] : List va_W).flatten := hD
  refine W.eq (g2 := F0 Mi 17 ls [.int (m_z01 1)]) rfl ?_
  refine lv_if_ne (tgt := 22) hx hb dX10_altitudeAfter_17 (by decide) (fun h9 => absurd h9 ((by decide))) (fun _ => ?_)
  refine lv_iconst (v := 0) hx hb dX10_altitudeAfter_20 (by decide) ?_
  have hP : va_P E.1 vwCl ([[(h0, .inr (9, [.int 1, .ref k1, .int sd, .ref k2, .ref k3, .int ln, .int at0, .int pt, .int mi, .int nu, .long ha]))], [(k1, .inl (E.2 0, 1160, .inl sv))]] : List va_W).flatten H := zf_sub hP [1, 0] rfl
  have hD : va_D A ([[(h0, .inr (9, [.int 1, .ref k1, .int sd, .ref k2, .ref k3, .int ln, .int at0, .int pt, .int mi, .int nu, .long ha]))], [(k1, .inl (E.2 0, 1160, .inl sv))]] : List va_W).flatten := zf_subD hD [1, 0] (by decide) rfl
  exact W.iret (v := 0) hx hb hr (z_end hP hD hS rfl) hS.2.2 dX10_altitudeAfter_21 hlocks

set_option maxHeartbeats 4000000 in
set_option maxRecDepth 100000 in
theorem c_X10_altitudeAfter_y (l : Launch) (E : zE) (h0 k1 k2 k3 : Nat) (th sd ln at0 pt mi nu : Int32) (ha : Int64) (sv : Nat → Int32) (n p : Int32) (m : Nat) (hm : sv 14 = nI m) (hm6 : m ≤ 60) (nn : Nat) (hn : n = nI nn) (hnn : nn ≤ 120) (hok : m_trp n p = 1) : zM l yX10_altitudeAfter wsX10_altitudeAfter ({ frames := 5, cells := 0, slots := 0, locals := 112 }) E [.ref h0, .int n, .int p] ([[(h0, .inr (9, [.int th, .ref k1, .int sd, .ref k2, .ref k3, .int ln, .int at0, .int pt, .int mi, .int nu, .long ha]))], [(k1, .inl (E.2 0, 1160, .inl sv))]] : List va_W).flatten (some (.int (m_std ((m_trA (m_cpA sv 0 9 116) 1044 n p nn) (1044 + 0)) - m_std ((m_trA (m_cpA sv 0 9 116) 1044 n p nn) (1044 + 1))))) ([[(h0, .inr (9, [.int 0, .ref k1, .int sd, .ref k2, .ref k3, .int ln, .int at0, .int pt, .int mi, .int nu, .long ha]))], [(k1, .inl (E.2 0, 1160, .inl (m_trA (m_cpA sv 0 9 116) 1044 n p nn)))]] : List va_W).flatten 0 0 := by
  refine z_start (cc := cX10_altitudeAfter) (maxL := 3) (ret := (some .int)) (by decide) rfl (Nat.le_of_ble_eq_true rfl) ?_
  intro Pg En s Mi below meth Cd A hx hb hr hts hown hlocks hin hml hA H hH hP hK hD hS ls hl
  have hl : lv_has ls 3 [(0, .ref h0), (1, .int n), (2, .int p)] := hl
  refine lv_aload_n hx hb dX10_altitudeAfter_0 rfl (lv_at hl 0 rfl) ?_
  refine lv_iload_n hx hb dX10_altitudeAfter_1 rfl (lv_at hl 1 rfl) ?_
  refine lv_iload_n hx hb dX10_altitudeAfter_2 rfl (lv_at hl 2 rfl) ?_
  refine z_rdv (va_runS (As := [.int n, .int p]) (rest := [.ref h0]) ⟨hx, hb, hml, hown, hts⟩ (c_X10_isTrip l E n p) (va_cwS 2 hts gX10_altitudeAfter_X10_isTrip rfl rfl rfl (by decide +kernel) ⟨Nat.le_of_ble_eq_true rfl, Nat.le_of_ble_eq_true rfl⟩) ⟨zPr.blind, z_prer hK zP_nil⟩ rfl rfl hl.1 rfl (lv_room (Nat.le_of_ble_eq_true rfl)) dX10_altitudeAfter_3 ⟨Nat.le_of_ble_eq_true rfl, Nat.le_of_ble_eq_true rfl⟩) ?_
  refine W.eq (g2 := F0 Mi 6 ls [.int (m_trp n p), .ref h0]) rfl ?_
  refine lv_if_eq (tgt := 13) hx hb dX10_altitudeAfter_6 (by decide) (fun h9 => absurd h9 ((by rw [hok]; decide))) (fun _ => ?_)
  refine lv_iconst (v := 0) hx hb dX10_altitudeAfter_9 (by decide) ?_
  refine lv_goto (tgt := 14) hx hb dX10_altitudeAfter_10 (by decide) ?_
  have hPc : va_P E.1 vwCl ([[(h0, .inr (9, [.int th, .ref k1, .int sd, .ref k2, .ref k3, .int ln, .int at0, .int pt, .int mi, .int nu, .long ha]))]] : List va_W).flatten H := zf_sub hP [0] rfl
  have hDc : va_D A ([[(h0, .inr (9, [.int th, .ref k1, .int sd, .ref k2, .ref k3, .int ln, .int at0, .int pt, .int mi, .int nu, .long ha]))]] : List va_W).flatten := zf_subD hD [0] (by decide) rfl
  refine z_mut (Sc := [[(h0, .inr (9, [.int th, .ref k1, .int sd, .ref k2, .ref k3, .int ln, .int at0, .int pt, .int mi, .int nu, .long ha]))]]) (Sr := [[(k1, .inl (E.2 0, 1160, .inl sv))]]) (W1 := [[(h0, .inr (9, [.int 0, .ref k1, .int sd, .ref k2, .ref k3, .int ln, .int at0, .int pt, .int mi, .int nu, .long ha]))]]) (va_runV (As := [.int 0]) (rest := []) ⟨hx, hb, hml, hown, hts⟩ (c_X10_holds l E h0 k1 k2 k3 th sd ln at0 pt mi nu ha 0 H.size) (cwV 1 hts gX10_altitudeAfter_X10_holds rfl rfl rfl (by decide +kernel) ⟨Nat.le_of_ble_eq_true rfl, Nat.le_of_ble_eq_true rfl⟩) ⟨zP.blind, va_recv hK.1 hPc (ci := 9) (q0 := 0) rfl rfl, z_pre hK hPc hDc⟩ rfl rfl hl.1 rfl (lv_room (Nat.le_of_ble_eq_true rfl)) dX10_altitudeAfter_14 ⟨Nat.le_of_ble_eq_true rfl, Nat.le_of_ble_eq_true rfl⟩) hP hD hS hA [0] [1] rfl rfl (by decide) (by decide) (fun H locs hP hD hS => ?_)
  have hP : va_P E.1 vwCl ([[(k1, .inl (E.2 0, 1160, .inl sv))], [(h0, .inr (9, [.int 0, .ref k1, .int sd, .ref k2, .ref k3, .int ln, .int at0, .int pt, .int mi, .int nu, .long ha]))]] : List va_W).flatten H := hP
  have hD : va_D A ([[(k1, .inl (E.2 0, 1160, .inl sv))], [(h0, .inr (9, [.int 0, .ref k1, .int sd, .ref k2, .ref k3, .int ln, .int at0, .int pt, .int mi, .int nu, .long ha]))]] : List va_W).flatten := hD
  refine W.eq (g2 := F0 Mi 17 ls [.int (m_z01 0)]) rfl ?_
  refine lv_if_ne (tgt := 22) hx hb dX10_altitudeAfter_17 (by decide) (fun _ => ?_) (fun h9 => absurd h9 ((by decide)))
  refine lv_aload_n hx hb dX10_altitudeAfter_22 rfl (lv_at hl 0 rfl) ?_
  refine lv_iconst (v := 0) hx hb dX10_altitudeAfter_23 (by decide) ?_
  refine lv_bipush (v := 9) hx hb dX10_altitudeAfter_24 (by decide) ?_
  have hPc : va_P E.1 vwCl ([[(h0, .inr (9, [.int 0, .ref k1, .int sd, .ref k2, .ref k3, .int ln, .int at0, .int pt, .int mi, .int nu, .long ha]))], [(k1, .inl (E.2 0, 1160, .inl sv))]] : List va_W).flatten H := zf_sub hP [1, 0] rfl
  have hDc : va_D A ([[(h0, .inr (9, [.int 0, .ref k1, .int sd, .ref k2, .ref k3, .int ln, .int at0, .int pt, .int mi, .int nu, .long ha]))], [(k1, .inl (E.2 0, 1160, .inl sv))]] : List va_W).flatten := zf_subD hD [1, 0] (by decide) rfl
  refine z_mut (Sc := [[(h0, .inr (9, [.int 0, .ref k1, .int sd, .ref k2, .ref k3, .int ln, .int at0, .int pt, .int mi, .int nu, .long ha]))], [(k1, .inl (E.2 0, 1160, .inl sv))]]) (Sr := []) (W1 := [[(h0, .inr (9, [.int 0, .ref k1, .int sd, .ref k2, .ref k3, .int ln, .int at0, .int pt, .int mi, .int nu, .long ha]))], [(k1, .inl (E.2 0, 1160, .inl (m_cpA sv 0 9 116)))]]) (va_runV (As := [.int 0, .int 9]) (rest := []) ⟨hx, hb, hml, hown, hts⟩ (c_X10_copies l E h0 k1 k2 k3 0 sd ln at0 pt mi nu ha 0 9 0 9 rfl rfl (by omega) (by omega) sv H.size) (cwV 2 hts gX10_altitudeAfter_X10_copies rfl rfl rfl (by decide +kernel) ⟨Nat.le_of_ble_eq_true rfl, Nat.le_of_ble_eq_true rfl⟩) ⟨zP.blind, va_recv hK.1 hPc (ci := 9) (q0 := 0) rfl rfl, z_pre hK hPc hDc⟩ rfl rfl hl.1 rfl (lv_room (Nat.le_of_ble_eq_true rfl)) dX10_altitudeAfter_26 ⟨Nat.le_of_ble_eq_true rfl, Nat.le_of_ble_eq_true rfl⟩) hP hD hS hA [1, 0] [] rfl rfl (by decide) (by decide) (fun H locs hP hD hS => ?_)
  have hP : va_P E.1 vwCl ([[(h0, .inr (9, [.int 0, .ref k1, .int sd, .ref k2, .ref k3, .int ln, .int at0, .int pt, .int mi, .int nu, .long ha]))], [(k1, .inl (E.2 0, 1160, .inl (m_cpA sv 0 9 116)))]] : List va_W).flatten H := hP
  have hD : va_D A ([[(h0, .inr (9, [.int 0, .ref k1, .int sd, .ref k2, .ref k3, .int ln, .int at0, .int pt, .int mi, .int nu, .long ha]))], [(k1, .inl (E.2 0, 1160, .inl (m_cpA sv 0 9 116)))]] : List va_W).flatten := hD
  refine W.eq (g2 := F0 Mi 29 ls []) rfl ?_
  refine lv_aload_n hx hb dX10_altitudeAfter_29 rfl (lv_at hl 0 rfl) ?_
  refine lv_sipush (v := 1044) hx hb dX10_altitudeAfter_30 (by decide) ?_
  refine lv_iload_n hx hb dX10_altitudeAfter_33 rfl (lv_at hl 1 rfl) ?_
  refine lv_iload_n hx hb dX10_altitudeAfter_34 rfl (lv_at hl 2 rfl) ?_
  have hPc : va_P E.1 vwCl ([[(h0, .inr (9, [.int 0, .ref k1, .int sd, .ref k2, .ref k3, .int ln, .int at0, .int pt, .int mi, .int nu, .long ha]))], [(k1, .inl (E.2 0, 1160, .inl (m_cpA sv 0 9 116)))]] : List va_W).flatten H := zf_sub hP [0, 1] rfl
  have hDc : va_D A ([[(h0, .inr (9, [.int 0, .ref k1, .int sd, .ref k2, .ref k3, .int ln, .int at0, .int pt, .int mi, .int nu, .long ha]))], [(k1, .inl (E.2 0, 1160, .inl (m_cpA sv 0 9 116)))]] : List va_W).flatten := zf_subD hD [0, 1] (by decide) rfl
  refine z_mut (Sc := [[(h0, .inr (9, [.int 0, .ref k1, .int sd, .ref k2, .ref k3, .int ln, .int at0, .int pt, .int mi, .int nu, .long ha]))], [(k1, .inl (E.2 0, 1160, .inl (m_cpA sv 0 9 116)))]]) (Sr := []) (W1 := [[(h0, .inr (9, [.int 0, .ref k1, .int sd, .ref k2, .ref k3, .int ln, .int at0, .int pt, .int mi, .int nu, .long ha]))], [(k1, .inl (E.2 0, 1160, .inl (m_trA (m_cpA sv 0 9 116) 1044 n p nn)))]]) (va_runV (As := [.int 1044, .int n, .int p]) (rest := []) ⟨hx, hb, hml, hown, hts⟩ (c_X10_trips l E h0 k1 k2 k3 0 sd ln at0 pt mi nu ha 1044 1044 rfl (by omega) (m_cpA sv 0 9 116) m ((m_cp9 (by decide)).trans hm) hm6 n p nn hn hnn H.size) (cwV 3 hts gX10_altitudeAfter_X10_trips rfl rfl rfl (by decide +kernel) ⟨Nat.le_of_ble_eq_true rfl, Nat.le_of_ble_eq_true rfl⟩) ⟨zP.blind, va_recv hK.1 hPc (ci := 9) (q0 := 0) rfl rfl, z_pre hK hPc hDc⟩ rfl rfl hl.1 rfl (lv_room (Nat.le_of_ble_eq_true rfl)) dX10_altitudeAfter_35 ⟨Nat.le_of_ble_eq_true rfl, Nat.le_of_ble_eq_true rfl⟩) hP hD hS hA [0, 1] [] rfl rfl (by decide) (by decide) (fun H locs hP hD hS => ?_)
  have hP : va_P E.1 vwCl ([[(h0, .inr (9, [.int 0, .ref k1, .int sd, .ref k2, .ref k3, .int ln, .int at0, .int pt, .int mi, .int nu, .long ha]))], [(k1, .inl (E.2 0, 1160, .inl (m_trA (m_cpA sv 0 9 116) 1044 n p nn)))]] : List va_W).flatten H := hP
  have hD : va_D A ([[(h0, .inr (9, [.int 0, .ref k1, .int sd, .ref k2, .ref k3, .int ln, .int at0, .int pt, .int mi, .int nu, .long ha]))], [(k1, .inl (E.2 0, 1160, .inl (m_trA (m_cpA sv 0 9 116) 1044 n p nn)))]] : List va_W).flatten := hD
  refine W.eq (g2 := F0 Mi 38 ls []) rfl ?_
  refine lv_aload_n hx hb dX10_altitudeAfter_38 rfl (lv_at hl 0 rfl) ?_
  refine lv_sipush (v := 1044) hx hb dX10_altitudeAfter_39 (by decide) ?_
  have hPc : va_P E.1 vwCl ([[(h0, .inr (9, [.int 0, .ref k1, .int sd, .ref k2, .ref k3, .int ln, .int at0, .int pt, .int mi, .int nu, .long ha]))], [(k1, .inl (E.2 0, 1160, .inl (m_trA (m_cpA sv 0 9 116) 1044 n p nn)))]] : List va_W).flatten H := zf_sub hP [0, 1] rfl
  refine z_rdv (va_runV (As := [.int 1044]) (rest := []) ⟨hx, hb, hml, hown, hts⟩ (c_X10_altitudeAt l E h0 k1 k2 k3 0 sd ln at0 pt mi nu ha 1044 1044 rfl (by omega) (m_trA (m_cpA sv 0 9 116) 1044 n p nn)) (cwV 1 hts gX10_altitudeAfter_X10_altitudeAt rfl rfl rfl (by decide +kernel) ⟨Nat.le_of_ble_eq_true rfl, Nat.le_of_ble_eq_true rfl⟩) ⟨zPr.blind, va_recv hK.1 hPc (ci := 9) (q0 := 0) rfl rfl, z_prer hK hPc⟩ rfl rfl hl.1 rfl (lv_room (Nat.le_of_ble_eq_true rfl)) dX10_altitudeAfter_42 ⟨Nat.le_of_ble_eq_true rfl, Nat.le_of_ble_eq_true rfl⟩) ?_
  refine W.eq (g2 := F0 Mi 45 ls [.int (m_std ((m_trA (m_cpA sv 0 9 116) 1044 n p nn) (1044 + 0)) - m_std ((m_trA (m_cpA sv 0 9 116) 1044 n p nn) (1044 + 1)))]) rfl ?_
  have hP : va_P E.1 vwCl ([[(h0, .inr (9, [.int 0, .ref k1, .int sd, .ref k2, .ref k3, .int ln, .int at0, .int pt, .int mi, .int nu, .long ha]))], [(k1, .inl (E.2 0, 1160, .inl (m_trA (m_cpA sv 0 9 116) 1044 n p nn)))]] : List va_W).flatten H := zf_sub hP [0, 1] rfl
  have hD : va_D A ([[(h0, .inr (9, [.int 0, .ref k1, .int sd, .ref k2, .ref k3, .int ln, .int at0, .int pt, .int mi, .int nu, .long ha]))], [(k1, .inl (E.2 0, 1160, .inl (m_trA (m_cpA sv 0 9 116) 1044 n p nn)))]] : List va_W).flatten := zf_subD hD [0, 1] (by decide) rfl
  exact W.iret (v := (m_std ((m_trA (m_cpA sv 0 9 116) 1044 n p nn) (1044 + 0)) - m_std ((m_trA (m_cpA sv 0 9 116) 1044 n p nn) (1044 + 1)))) hx hb hr (z_end hP hD hS rfl) hS.2.2 dX10_altitudeAfter_45 hlocks

set_option maxHeartbeats 4000000 in
set_option maxRecDepth 100000 in
theorem c_X10_ascentIn_n (l : Launch) (E : zE) (h0 k1 k2 k3 : Nat) (th sd ln at0 pt mi nu : Int32) (ha : Int64) (sv : Nat → Int32) (n p : Int32) (hok : m_trp n p = 0) : zM l yX10_ascentIn wsX10_ascentIn ({ frames := 2, cells := 0, slots := 0, locals := 43 }) E [.ref h0, .int n, .int p] ([[(h0, .inr (9, [.int th, .ref k1, .int sd, .ref k2, .ref k3, .int ln, .int at0, .int pt, .int mi, .int nu, .long ha]))], [(k1, .inl (E.2 0, 1160, .inl sv))]] : List va_W).flatten (some (.int 0)) ([[(h0, .inr (9, [.int 1, .ref k1, .int sd, .ref k2, .ref k3, .int ln, .int at0, .int pt, .int mi, .int nu, .long ha]))], [(k1, .inl (E.2 0, 1160, .inl sv))]] : List va_W).flatten 0 0 := by
  refine z_start (cc := cX10_ascentIn) (maxL := 3) (ret := (some .int)) (by decide) rfl (Nat.le_of_ble_eq_true rfl) ?_
  intro Pg En s Mi below meth Cd A hx hb hr hts hown hlocks hin hml hA H hH hP hK hD hS ls hl
  have hl : lv_has ls 3 [(0, .ref h0), (1, .int n), (2, .int p)] := hl
  refine lv_aload_n hx hb dX10_ascentIn_0 rfl (lv_at hl 0 rfl) ?_
  refine lv_iload_n hx hb dX10_ascentIn_1 rfl (lv_at hl 1 rfl) ?_
  refine lv_iload_n hx hb dX10_ascentIn_2 rfl (lv_at hl 2 rfl) ?_
  refine z_rdv (va_runS (As := [.int n, .int p]) (rest := [.ref h0]) ⟨hx, hb, hml, hown, hts⟩ (c_X10_isTrip l E n p) (va_cwS 2 hts gX10_ascentIn_X10_isTrip rfl rfl rfl (by decide +kernel) ⟨Nat.le_of_ble_eq_true rfl, Nat.le_of_ble_eq_true rfl⟩) ⟨zPr.blind, z_prer hK zP_nil⟩ rfl rfl hl.1 rfl (lv_room (Nat.le_of_ble_eq_true rfl)) dX10_ascentIn_3 ⟨Nat.le_of_ble_eq_true rfl, Nat.le_of_ble_eq_true rfl⟩) ?_
  refine W.eq (g2 := F0 Mi 6 ls [.int (m_trp n p), .ref h0]) rfl ?_
  refine lv_if_eq (tgt := 13) hx hb dX10_ascentIn_6 (by decide) (fun _ => ?_) (fun h9 => absurd (hok) h9)
  refine lv_iconst (v := 1) hx hb dX10_ascentIn_13 (by decide) ?_
  have hPc : va_P E.1 vwCl ([[(h0, .inr (9, [.int th, .ref k1, .int sd, .ref k2, .ref k3, .int ln, .int at0, .int pt, .int mi, .int nu, .long ha]))]] : List va_W).flatten H := zf_sub hP [0] rfl
  have hDc : va_D A ([[(h0, .inr (9, [.int th, .ref k1, .int sd, .ref k2, .ref k3, .int ln, .int at0, .int pt, .int mi, .int nu, .long ha]))]] : List va_W).flatten := zf_subD hD [0] (by decide) rfl
  refine z_mut (Sc := [[(h0, .inr (9, [.int th, .ref k1, .int sd, .ref k2, .ref k3, .int ln, .int at0, .int pt, .int mi, .int nu, .long ha]))]]) (Sr := [[(k1, .inl (E.2 0, 1160, .inl sv))]]) (W1 := [[(h0, .inr (9, [.int 1, .ref k1, .int sd, .ref k2, .ref k3, .int ln, .int at0, .int pt, .int mi, .int nu, .long ha]))]]) (va_runV (As := [.int 1]) (rest := []) ⟨hx, hb, hml, hown, hts⟩ (c_X10_holds l E h0 k1 k2 k3 th sd ln at0 pt mi nu ha 1 H.size) (cwV 1 hts gX10_ascentIn_X10_holds rfl rfl rfl (by decide +kernel) ⟨Nat.le_of_ble_eq_true rfl, Nat.le_of_ble_eq_true rfl⟩) ⟨zP.blind, va_recv hK.1 hPc (ci := 9) (q0 := 0) rfl rfl, z_pre hK hPc hDc⟩ rfl rfl hl.1 rfl (lv_room (Nat.le_of_ble_eq_true rfl)) dX10_ascentIn_14 ⟨Nat.le_of_ble_eq_true rfl, Nat.le_of_ble_eq_true rfl⟩) hP hD hS hA [0] [1] rfl rfl (by decide) (by decide) (fun H locs hP hD hS => ?_)
  have hP : va_P E.1 vwCl ([[(k1, .inl (E.2 0, 1160, .inl sv))], [(h0, .inr (9, [.int 1, .ref k1, .int sd, .ref k2, .ref k3, .int ln, .int at0, .int pt, .int mi, .int nu, .long ha]))]] : List va_W).flatten H := hP
  have hD : va_D A ([[(k1, .inl (E.2 0, 1160, .inl sv))], [(h0, .inr (9, [.int 1, .ref k1, .int sd, .ref k2, .ref k3, .int ln, .int at0, .int pt, .int mi, .int nu, .long ha]))]] : List va_W).flatten := hD
  refine W.eq (g2 := F0 Mi 17 ls [.int (m_z01 1)]) rfl ?_
  refine lv_if_ne (tgt := 22) hx hb dX10_ascentIn_17 (by decide) (fun h9 => absurd h9 ((by decide))) (fun _ => ?_)
  refine lv_iconst (v := 0) hx hb dX10_ascentIn_20 (by decide) ?_
  have hP : va_P E.1 vwCl ([[(h0, .inr (9, [.int 1, .ref k1, .int sd, .ref k2, .ref k3, .int ln, .int at0, .int pt, .int mi, .int nu, .long ha]))], [(k1, .inl (E.2 0, 1160, .inl sv))]] : List va_W).flatten H := zf_sub hP [1, 0] rfl
  have hD : va_D A ([[(h0, .inr (9, [.int 1, .ref k1, .int sd, .ref k2, .ref k3, .int ln, .int at0, .int pt, .int mi, .int nu, .long ha]))], [(k1, .inl (E.2 0, 1160, .inl sv))]] : List va_W).flatten := zf_subD hD [1, 0] (by decide) rfl
  exact W.iret (v := 0) hx hb hr (z_end hP hD hS rfl) hS.2.2 dX10_ascentIn_21 hlocks

set_option maxHeartbeats 4000000 in
set_option maxRecDepth 100000 in
theorem c_X10_ascentIn_y (l : Launch) (E : zE) (h0 k1 k2 k3 : Nat) (th sd ln at0 pt mi nu : Int32) (ha : Int64) (sv : Nat → Int32) (n p : Int32) (m : Nat) (hm : sv 14 = nI m) (hm6 : m ≤ 60) (nn : Nat) (hn : n = nI nn) (hnn : nn ≤ 120) (hok : m_trp n p = 1) : zM l yX10_ascentIn wsX10_ascentIn ({ frames := 5, cells := 0, slots := 0, locals := 112 }) E [.ref h0, .int n, .int p] ([[(h0, .inr (9, [.int th, .ref k1, .int sd, .ref k2, .ref k3, .int ln, .int at0, .int pt, .int mi, .int nu, .long ha]))], [(k1, .inl (E.2 0, 1160, .inl sv))]] : List va_W).flatten (some (.int ((m_trA (m_cpA sv 0 9 116) 1044 n p nn) 1051 - (m_trA (m_cpA sv 0 9 116) 1044 n p nn) 7))) ([[(h0, .inr (9, [.int 0, .ref k1, .int sd, .ref k2, .ref k3, .int ln, .int at0, .int pt, .int mi, .int nu, .long ha]))], [(k1, .inl (E.2 0, 1160, .inl (m_trA (m_cpA sv 0 9 116) 1044 n p nn)))]] : List va_W).flatten 0 0 := by
  refine z_start (cc := cX10_ascentIn) (maxL := 3) (ret := (some .int)) (by decide) rfl (Nat.le_of_ble_eq_true rfl) ?_
  intro Pg En s Mi below meth Cd A hx hb hr hts hown hlocks hin hml hA H hH hP hK hD hS ls hl
  have hl : lv_has ls 3 [(0, .ref h0), (1, .int n), (2, .int p)] := hl
  have hi_X10 : ∀ w ∈ wsX100, w ∈ wsX10_ascentIn := by decide +kernel
  refine lv_aload_n hx hb dX10_ascentIn_0 rfl (lv_at hl 0 rfl) ?_
  refine lv_iload_n hx hb dX10_ascentIn_1 rfl (lv_at hl 1 rfl) ?_
  refine lv_iload_n hx hb dX10_ascentIn_2 rfl (lv_at hl 2 rfl) ?_
  refine z_rdv (va_runS (As := [.int n, .int p]) (rest := [.ref h0]) ⟨hx, hb, hml, hown, hts⟩ (c_X10_isTrip l E n p) (va_cwS 2 hts gX10_ascentIn_X10_isTrip rfl rfl rfl (by decide +kernel) ⟨Nat.le_of_ble_eq_true rfl, Nat.le_of_ble_eq_true rfl⟩) ⟨zPr.blind, z_prer hK zP_nil⟩ rfl rfl hl.1 rfl (lv_room (Nat.le_of_ble_eq_true rfl)) dX10_ascentIn_3 ⟨Nat.le_of_ble_eq_true rfl, Nat.le_of_ble_eq_true rfl⟩) ?_
  refine W.eq (g2 := F0 Mi 6 ls [.int (m_trp n p), .ref h0]) rfl ?_
  refine lv_if_eq (tgt := 13) hx hb dX10_ascentIn_6 (by decide) (fun h9 => absurd h9 ((by rw [hok]; decide))) (fun _ => ?_)
  refine lv_iconst (v := 0) hx hb dX10_ascentIn_9 (by decide) ?_
  refine lv_goto (tgt := 14) hx hb dX10_ascentIn_10 (by decide) ?_
  have hPc : va_P E.1 vwCl ([[(h0, .inr (9, [.int th, .ref k1, .int sd, .ref k2, .ref k3, .int ln, .int at0, .int pt, .int mi, .int nu, .long ha]))]] : List va_W).flatten H := zf_sub hP [0] rfl
  have hDc : va_D A ([[(h0, .inr (9, [.int th, .ref k1, .int sd, .ref k2, .ref k3, .int ln, .int at0, .int pt, .int mi, .int nu, .long ha]))]] : List va_W).flatten := zf_subD hD [0] (by decide) rfl
  refine z_mut (Sc := [[(h0, .inr (9, [.int th, .ref k1, .int sd, .ref k2, .ref k3, .int ln, .int at0, .int pt, .int mi, .int nu, .long ha]))]]) (Sr := [[(k1, .inl (E.2 0, 1160, .inl sv))]]) (W1 := [[(h0, .inr (9, [.int 0, .ref k1, .int sd, .ref k2, .ref k3, .int ln, .int at0, .int pt, .int mi, .int nu, .long ha]))]]) (va_runV (As := [.int 0]) (rest := []) ⟨hx, hb, hml, hown, hts⟩ (c_X10_holds l E h0 k1 k2 k3 th sd ln at0 pt mi nu ha 0 H.size) (cwV 1 hts gX10_ascentIn_X10_holds rfl rfl rfl (by decide +kernel) ⟨Nat.le_of_ble_eq_true rfl, Nat.le_of_ble_eq_true rfl⟩) ⟨zP.blind, va_recv hK.1 hPc (ci := 9) (q0 := 0) rfl rfl, z_pre hK hPc hDc⟩ rfl rfl hl.1 rfl (lv_room (Nat.le_of_ble_eq_true rfl)) dX10_ascentIn_14 ⟨Nat.le_of_ble_eq_true rfl, Nat.le_of_ble_eq_true rfl⟩) hP hD hS hA [0] [1] rfl rfl (by decide) (by decide) (fun H locs hP hD hS => ?_)
  have hP : va_P E.1 vwCl ([[(k1, .inl (E.2 0, 1160, .inl sv))], [(h0, .inr (9, [.int 0, .ref k1, .int sd, .ref k2, .ref k3, .int ln, .int at0, .int pt, .int mi, .int nu, .long ha]))]] : List va_W).flatten H := hP
  have hD : va_D A ([[(k1, .inl (E.2 0, 1160, .inl sv))], [(h0, .inr (9, [.int 0, .ref k1, .int sd, .ref k2, .ref k3, .int ln, .int at0, .int pt, .int mi, .int nu, .long ha]))]] : List va_W).flatten := hD
  refine W.eq (g2 := F0 Mi 17 ls [.int (m_z01 0)]) rfl ?_
  refine lv_if_ne (tgt := 22) hx hb dX10_ascentIn_17 (by decide) (fun _ => ?_) (fun h9 => absurd h9 ((by decide)))
  refine lv_aload_n hx hb dX10_ascentIn_22 rfl (lv_at hl 0 rfl) ?_
  refine lv_iconst (v := 0) hx hb dX10_ascentIn_23 (by decide) ?_
  refine lv_bipush (v := 9) hx hb dX10_ascentIn_24 (by decide) ?_
  have hPc : va_P E.1 vwCl ([[(h0, .inr (9, [.int 0, .ref k1, .int sd, .ref k2, .ref k3, .int ln, .int at0, .int pt, .int mi, .int nu, .long ha]))], [(k1, .inl (E.2 0, 1160, .inl sv))]] : List va_W).flatten H := zf_sub hP [1, 0] rfl
  have hDc : va_D A ([[(h0, .inr (9, [.int 0, .ref k1, .int sd, .ref k2, .ref k3, .int ln, .int at0, .int pt, .int mi, .int nu, .long ha]))], [(k1, .inl (E.2 0, 1160, .inl sv))]] : List va_W).flatten := zf_subD hD [1, 0] (by decide) rfl
  refine z_mut (Sc := [[(h0, .inr (9, [.int 0, .ref k1, .int sd, .ref k2, .ref k3, .int ln, .int at0, .int pt, .int mi, .int nu, .long ha]))], [(k1, .inl (E.2 0, 1160, .inl sv))]]) (Sr := []) (W1 := [[(h0, .inr (9, [.int 0, .ref k1, .int sd, .ref k2, .ref k3, .int ln, .int at0, .int pt, .int mi, .int nu, .long ha]))], [(k1, .inl (E.2 0, 1160, .inl (m_cpA sv 0 9 116)))]]) (va_runV (As := [.int 0, .int 9]) (rest := []) ⟨hx, hb, hml, hown, hts⟩ (c_X10_copies l E h0 k1 k2 k3 0 sd ln at0 pt mi nu ha 0 9 0 9 rfl rfl (by omega) (by omega) sv H.size) (cwV 2 hts gX10_ascentIn_X10_copies rfl rfl rfl (by decide +kernel) ⟨Nat.le_of_ble_eq_true rfl, Nat.le_of_ble_eq_true rfl⟩) ⟨zP.blind, va_recv hK.1 hPc (ci := 9) (q0 := 0) rfl rfl, z_pre hK hPc hDc⟩ rfl rfl hl.1 rfl (lv_room (Nat.le_of_ble_eq_true rfl)) dX10_ascentIn_26 ⟨Nat.le_of_ble_eq_true rfl, Nat.le_of_ble_eq_true rfl⟩) hP hD hS hA [1, 0] [] rfl rfl (by decide) (by decide) (fun H locs hP hD hS => ?_)
  have hP : va_P E.1 vwCl ([[(h0, .inr (9, [.int 0, .ref k1, .int sd, .ref k2, .ref k3, .int ln, .int at0, .int pt, .int mi, .int nu, .long ha]))], [(k1, .inl (E.2 0, 1160, .inl (m_cpA sv 0 9 116)))]] : List va_W).flatten H := hP
  have hD : va_D A ([[(h0, .inr (9, [.int 0, .ref k1, .int sd, .ref k2, .ref k3, .int ln, .int at0, .int pt, .int mi, .int nu, .long ha]))], [(k1, .inl (E.2 0, 1160, .inl (m_cpA sv 0 9 116)))]] : List va_W).flatten := hD
  refine W.eq (g2 := F0 Mi 29 ls []) rfl ?_
  refine lv_aload_n hx hb dX10_ascentIn_29 rfl (lv_at hl 0 rfl) ?_
  refine lv_sipush (v := 1044) hx hb dX10_ascentIn_30 (by decide) ?_
  refine lv_iload_n hx hb dX10_ascentIn_33 rfl (lv_at hl 1 rfl) ?_
  refine lv_iload_n hx hb dX10_ascentIn_34 rfl (lv_at hl 2 rfl) ?_
  have hPc : va_P E.1 vwCl ([[(h0, .inr (9, [.int 0, .ref k1, .int sd, .ref k2, .ref k3, .int ln, .int at0, .int pt, .int mi, .int nu, .long ha]))], [(k1, .inl (E.2 0, 1160, .inl (m_cpA sv 0 9 116)))]] : List va_W).flatten H := zf_sub hP [0, 1] rfl
  have hDc : va_D A ([[(h0, .inr (9, [.int 0, .ref k1, .int sd, .ref k2, .ref k3, .int ln, .int at0, .int pt, .int mi, .int nu, .long ha]))], [(k1, .inl (E.2 0, 1160, .inl (m_cpA sv 0 9 116)))]] : List va_W).flatten := zf_subD hD [0, 1] (by decide) rfl
  refine z_mut (Sc := [[(h0, .inr (9, [.int 0, .ref k1, .int sd, .ref k2, .ref k3, .int ln, .int at0, .int pt, .int mi, .int nu, .long ha]))], [(k1, .inl (E.2 0, 1160, .inl (m_cpA sv 0 9 116)))]]) (Sr := []) (W1 := [[(h0, .inr (9, [.int 0, .ref k1, .int sd, .ref k2, .ref k3, .int ln, .int at0, .int pt, .int mi, .int nu, .long ha]))], [(k1, .inl (E.2 0, 1160, .inl (m_trA (m_cpA sv 0 9 116) 1044 n p nn)))]]) (va_runV (As := [.int 1044, .int n, .int p]) (rest := []) ⟨hx, hb, hml, hown, hts⟩ (c_X10_trips l E h0 k1 k2 k3 0 sd ln at0 pt mi nu ha 1044 1044 rfl (by omega) (m_cpA sv 0 9 116) m ((m_cp9 (by decide)).trans hm) hm6 n p nn hn hnn H.size) (cwV 3 hts gX10_ascentIn_X10_trips rfl rfl rfl (by decide +kernel) ⟨Nat.le_of_ble_eq_true rfl, Nat.le_of_ble_eq_true rfl⟩) ⟨zP.blind, va_recv hK.1 hPc (ci := 9) (q0 := 0) rfl rfl, z_pre hK hPc hDc⟩ rfl rfl hl.1 rfl (lv_room (Nat.le_of_ble_eq_true rfl)) dX10_ascentIn_35 ⟨Nat.le_of_ble_eq_true rfl, Nat.le_of_ble_eq_true rfl⟩) hP hD hS hA [0, 1] [] rfl rfl (by decide) (by decide) (fun H locs hP hD hS => ?_)
  have hP : va_P E.1 vwCl ([[(h0, .inr (9, [.int 0, .ref k1, .int sd, .ref k2, .ref k3, .int ln, .int at0, .int pt, .int mi, .int nu, .long ha]))], [(k1, .inl (E.2 0, 1160, .inl (m_trA (m_cpA sv 0 9 116) 1044 n p nn)))]] : List va_W).flatten H := hP
  have hD : va_D A ([[(h0, .inr (9, [.int 0, .ref k1, .int sd, .ref k2, .ref k3, .int ln, .int at0, .int pt, .int mi, .int nu, .long ha]))], [(k1, .inl (E.2 0, 1160, .inl (m_trA (m_cpA sv 0 9 116) 1044 n p nn)))]] : List va_W).flatten := hD
  refine W.eq (g2 := F0 Mi 38 ls []) rfl ?_
  refine lv_aload_n hx hb dX10_ascentIn_38 rfl (lv_at hl 0 rfl) ?_
  refine va_get (D := E.1) (ci := 9) (v := .ref k1) (C := RX10) (T := TX10) (N := 11) hx hb hts hi_X10 hown hK.1 hP 0 rfl rfl 1 (by decide) (hts (.fieldLink RX10 7 "AltimeterWatchModel" "s" "[I") (by decide +kernel)) (fun _ h9 => h9) rfl dX10_ascentIn_39 ?_
  refine lv_sipush (v := 1051) hx hb dX10_ascentIn_42 (by decide) ?_
  refine z_iald (k := 1051) hx hb hK.1 hP 1 rfl rfl (by decide) (by decide) dX10_ascentIn_45 ?_
  refine lv_aload_n hx hb dX10_ascentIn_46 rfl (lv_at hl 0 rfl) ?_
  refine va_get (D := E.1) (ci := 9) (v := .ref k1) (C := RX10) (T := TX10) (N := 11) hx hb hts hi_X10 hown hK.1 hP 0 rfl rfl 1 (by decide) (hts (.fieldLink RX10 7 "AltimeterWatchModel" "s" "[I") (by decide +kernel)) (fun _ h9 => h9) rfl dX10_ascentIn_47 ?_
  refine lv_bipush (v := 7) hx hb dX10_ascentIn_50 (by decide) ?_
  refine z_iald (k := 7) hx hb hK.1 hP 1 rfl rfl (by decide) (by decide) dX10_ascentIn_52 ?_
  refine lv_isub hx hb dX10_ascentIn_53 ?_
  have hP : va_P E.1 vwCl ([[(h0, .inr (9, [.int 0, .ref k1, .int sd, .ref k2, .ref k3, .int ln, .int at0, .int pt, .int mi, .int nu, .long ha]))], [(k1, .inl (E.2 0, 1160, .inl (m_trA (m_cpA sv 0 9 116) 1044 n p nn)))]] : List va_W).flatten H := zf_sub hP [0, 1] rfl
  have hD : va_D A ([[(h0, .inr (9, [.int 0, .ref k1, .int sd, .ref k2, .ref k3, .int ln, .int at0, .int pt, .int mi, .int nu, .long ha]))], [(k1, .inl (E.2 0, 1160, .inl (m_trA (m_cpA sv 0 9 116) 1044 n p nn)))]] : List va_W).flatten := zf_subD hD [0, 1] (by decide) rfl
  exact W.iret (v := (((m_trA (m_cpA sv 0 9 116) 1044 n p nn) 1051) - ((m_trA (m_cpA sv 0 9 116) 1044 n p nn) 7))) hx hb hr (z_end hP hD hS rfl) hS.2.2 dX10_ascentIn_54 hlocks

set_option maxHeartbeats 4000000 in
set_option maxRecDepth 100000 in
theorem c_X10_calibrate_n (l : Launch) (E : zE) (h0 k1 k2 k3 : Nat) (th sd ln at0 pt mi nu : Int32) (ha : Int64) (sv : Nat → Int32) (x : Int32) (hok : m_in x (-5000) 50000 = 0) : zM l yX10_calibrate wsX10_calibrate ({ frames := 1, cells := 0, slots := 0, locals := 22 }) E [.ref h0, .int x] ([[(h0, .inr (9, [.int th, .ref k1, .int sd, .ref k2, .ref k3, .int ln, .int at0, .int pt, .int mi, .int nu, .long ha]))], [(k1, .inl (E.2 0, 1160, .inl sv))]] : List va_W).flatten (some (.int 0)) ([[(h0, .inr (9, [.int 1, .ref k1, .int sd, .ref k2, .ref k3, .int ln, .int at0, .int pt, .int mi, .int nu, .long ha]))], [(k1, .inl (E.2 0, 1160, .inl sv))]] : List va_W).flatten 0 0 := by
  refine z_start (cc := cX10_calibrate) (maxL := 2) (ret := (some .int)) (by decide) rfl (Nat.le_of_ble_eq_true rfl) ?_
  intro Pg En s Mi below meth Cd A hx hb hr hts hown hlocks hin hml hA H hH hP hK hD hS ls hl
  have hl : lv_has ls 2 [(0, .ref h0), (1, .int x)] := hl
  refine lv_aload_n hx hb dX10_calibrate_0 rfl (lv_at hl 0 rfl) ?_
  refine lv_iload_n hx hb dX10_calibrate_1 rfl (lv_at hl 1 rfl) ?_
  refine lv_sipush (v := (-5000)) hx hb dX10_calibrate_2 (by decide) ?_
  refine lv_ldc hx hb hown (hts (.constant RX10 93 (50000)) (by decide +kernel)) dX10_calibrate_5 ?_
  refine z_rdv (va_runS (As := [.int x, .int (-5000), .int (50000)]) (rest := [.ref h0]) ⟨hx, hb, hml, hown, hts⟩ (c_X10_in l E x (-5000) (50000)) (va_cwS 3 hts gX10_calibrate_X10_in rfl rfl rfl (by decide +kernel) ⟨Nat.le_of_ble_eq_true rfl, Nat.le_of_ble_eq_true rfl⟩) ⟨zPr.blind, z_prer hK zP_nil⟩ rfl rfl hl.1 rfl (lv_room (Nat.le_of_ble_eq_true rfl)) dX10_calibrate_7 ⟨Nat.le_of_ble_eq_true rfl, Nat.le_of_ble_eq_true rfl⟩) ?_
  refine W.eq (g2 := F0 Mi 10 ls [.int (m_in x (-5000) (50000)), .ref h0]) rfl ?_
  refine lv_if_eq (tgt := 17) hx hb dX10_calibrate_10 (by decide) (fun _ => ?_) (fun h9 => absurd (hok) h9)
  refine lv_iconst (v := 1) hx hb dX10_calibrate_17 (by decide) ?_
  have hPc : va_P E.1 vwCl ([[(h0, .inr (9, [.int th, .ref k1, .int sd, .ref k2, .ref k3, .int ln, .int at0, .int pt, .int mi, .int nu, .long ha]))]] : List va_W).flatten H := zf_sub hP [0] rfl
  have hDc : va_D A ([[(h0, .inr (9, [.int th, .ref k1, .int sd, .ref k2, .ref k3, .int ln, .int at0, .int pt, .int mi, .int nu, .long ha]))]] : List va_W).flatten := zf_subD hD [0] (by decide) rfl
  refine z_mut (Sc := [[(h0, .inr (9, [.int th, .ref k1, .int sd, .ref k2, .ref k3, .int ln, .int at0, .int pt, .int mi, .int nu, .long ha]))]]) (Sr := [[(k1, .inl (E.2 0, 1160, .inl sv))]]) (W1 := [[(h0, .inr (9, [.int 1, .ref k1, .int sd, .ref k2, .ref k3, .int ln, .int at0, .int pt, .int mi, .int nu, .long ha]))]]) (va_runV (As := [.int 1]) (rest := []) ⟨hx, hb, hml, hown, hts⟩ (c_X10_holds l E h0 k1 k2 k3 th sd ln at0 pt mi nu ha 1 H.size) (cwV 1 hts gX10_calibrate_X10_holds rfl rfl rfl (by decide +kernel) ⟨Nat.le_of_ble_eq_true rfl, Nat.le_of_ble_eq_true rfl⟩) ⟨zP.blind, va_recv hK.1 hPc (ci := 9) (q0 := 0) rfl rfl, z_pre hK hPc hDc⟩ rfl rfl hl.1 rfl (lv_room (Nat.le_of_ble_eq_true rfl)) dX10_calibrate_18 ⟨Nat.le_of_ble_eq_true rfl, Nat.le_of_ble_eq_true rfl⟩) hP hD hS hA [0] [1] rfl rfl (by decide) (by decide) (fun H locs hP hD hS => ?_)
  have hP : va_P E.1 vwCl ([[(k1, .inl (E.2 0, 1160, .inl sv))], [(h0, .inr (9, [.int 1, .ref k1, .int sd, .ref k2, .ref k3, .int ln, .int at0, .int pt, .int mi, .int nu, .long ha]))]] : List va_W).flatten H := hP
  have hD : va_D A ([[(k1, .inl (E.2 0, 1160, .inl sv))], [(h0, .inr (9, [.int 1, .ref k1, .int sd, .ref k2, .ref k3, .int ln, .int at0, .int pt, .int mi, .int nu, .long ha]))]] : List va_W).flatten := hD
  refine W.eq (g2 := F0 Mi 21 ls [.int (m_z01 1)]) rfl ?_
  refine lv_if_ne (tgt := 26) hx hb dX10_calibrate_21 (by decide) (fun h9 => absurd h9 ((by decide))) (fun _ => ?_)
  refine lv_iconst (v := 0) hx hb dX10_calibrate_24 (by decide) ?_
  have hP : va_P E.1 vwCl ([[(h0, .inr (9, [.int 1, .ref k1, .int sd, .ref k2, .ref k3, .int ln, .int at0, .int pt, .int mi, .int nu, .long ha]))], [(k1, .inl (E.2 0, 1160, .inl sv))]] : List va_W).flatten H := zf_sub hP [1, 0] rfl
  have hD : va_D A ([[(h0, .inr (9, [.int 1, .ref k1, .int sd, .ref k2, .ref k3, .int ln, .int at0, .int pt, .int mi, .int nu, .long ha]))], [(k1, .inl (E.2 0, 1160, .inl sv))]] : List va_W).flatten := zf_subD hD [1, 0] (by decide) rfl
  exact W.iret (v := 0) hx hb hr (z_end hP hD hS rfl) hS.2.2 dX10_calibrate_25 hlocks

set_option maxHeartbeats 4000000 in
set_option maxRecDepth 100000 in
theorem c_X10_calibrate_y (l : Launch) (E : zE) (h0 k1 k2 k3 : Nat) (th sd ln at0 pt mi nu : Int32) (ha : Int64) (sv : Nat → Int32) (x : Int32) (d : Nat) (hsd : sd = nI d) (hd : d ≤ 6) (hok : m_in x (-5000) 50000 = 1) : zM l yX10_calibrate wsX10_calibrate ({ frames := 4, cells := 0, slots := 0, locals := 84 }) E [.ref h0, .int x] ([[(h0, .inr (9, [.int th, .ref k1, .int sd, .ref k2, .ref k3, .int ln, .int at0, .int pt, .int mi, .int nu, .long ha]))], [(k1, .inl (E.2 0, 1160, .inl sv))]] : List va_W).flatten (some (.int (m_std ((m_svA sv d) (0 + 0)) - m_std ((m_svA sv d) (0 + 1)) - x))) ([[(h0, .inr (9, [.int 0, .ref k1, .int (nI (m_svC d)), .ref k2, .ref k3, .int ln, .int at0, .int pt, .int mi, .int nu, .long ha]))], [(k1, .inl (E.2 0, 1160, .inl (m_caA (m_svA sv d) x)))]] : List va_W).flatten 0 0 := by
  refine z_start (cc := cX10_calibrate) (maxL := 2) (ret := (some .int)) (by decide) rfl (Nat.le_of_ble_eq_true rfl) ?_
  intro Pg En s Mi below meth Cd A hx hb hr hts hown hlocks hin hml hA H hH hP hK hD hS ls hl
  have hl : lv_has ls 2 [(0, .ref h0), (1, .int x)] := hl
  refine lv_aload_n hx hb dX10_calibrate_0 rfl (lv_at hl 0 rfl) ?_
  refine lv_iload_n hx hb dX10_calibrate_1 rfl (lv_at hl 1 rfl) ?_
  refine lv_sipush (v := (-5000)) hx hb dX10_calibrate_2 (by decide) ?_
  refine lv_ldc hx hb hown (hts (.constant RX10 93 (50000)) (by decide +kernel)) dX10_calibrate_5 ?_
  refine z_rdv (va_runS (As := [.int x, .int (-5000), .int (50000)]) (rest := [.ref h0]) ⟨hx, hb, hml, hown, hts⟩ (c_X10_in l E x (-5000) (50000)) (va_cwS 3 hts gX10_calibrate_X10_in rfl rfl rfl (by decide +kernel) ⟨Nat.le_of_ble_eq_true rfl, Nat.le_of_ble_eq_true rfl⟩) ⟨zPr.blind, z_prer hK zP_nil⟩ rfl rfl hl.1 rfl (lv_room (Nat.le_of_ble_eq_true rfl)) dX10_calibrate_7 ⟨Nat.le_of_ble_eq_true rfl, Nat.le_of_ble_eq_true rfl⟩) ?_
  refine W.eq (g2 := F0 Mi 10 ls [.int (m_in x (-5000) (50000)), .ref h0]) rfl ?_
  refine lv_if_eq (tgt := 17) hx hb dX10_calibrate_10 (by decide) (fun h9 => absurd h9 ((by rw [hok]; decide))) (fun _ => ?_)
  refine lv_iconst (v := 0) hx hb dX10_calibrate_13 (by decide) ?_
  refine lv_goto (tgt := 18) hx hb dX10_calibrate_14 (by decide) ?_
  have hPc : va_P E.1 vwCl ([[(h0, .inr (9, [.int th, .ref k1, .int sd, .ref k2, .ref k3, .int ln, .int at0, .int pt, .int mi, .int nu, .long ha]))]] : List va_W).flatten H := zf_sub hP [0] rfl
  have hDc : va_D A ([[(h0, .inr (9, [.int th, .ref k1, .int sd, .ref k2, .ref k3, .int ln, .int at0, .int pt, .int mi, .int nu, .long ha]))]] : List va_W).flatten := zf_subD hD [0] (by decide) rfl
  refine z_mut (Sc := [[(h0, .inr (9, [.int th, .ref k1, .int sd, .ref k2, .ref k3, .int ln, .int at0, .int pt, .int mi, .int nu, .long ha]))]]) (Sr := [[(k1, .inl (E.2 0, 1160, .inl sv))]]) (W1 := [[(h0, .inr (9, [.int 0, .ref k1, .int sd, .ref k2, .ref k3, .int ln, .int at0, .int pt, .int mi, .int nu, .long ha]))]]) (va_runV (As := [.int 0]) (rest := []) ⟨hx, hb, hml, hown, hts⟩ (c_X10_holds l E h0 k1 k2 k3 th sd ln at0 pt mi nu ha 0 H.size) (cwV 1 hts gX10_calibrate_X10_holds rfl rfl rfl (by decide +kernel) ⟨Nat.le_of_ble_eq_true rfl, Nat.le_of_ble_eq_true rfl⟩) ⟨zP.blind, va_recv hK.1 hPc (ci := 9) (q0 := 0) rfl rfl, z_pre hK hPc hDc⟩ rfl rfl hl.1 rfl (lv_room (Nat.le_of_ble_eq_true rfl)) dX10_calibrate_18 ⟨Nat.le_of_ble_eq_true rfl, Nat.le_of_ble_eq_true rfl⟩) hP hD hS hA [0] [1] rfl rfl (by decide) (by decide) (fun H locs hP hD hS => ?_)
  have hP : va_P E.1 vwCl ([[(k1, .inl (E.2 0, 1160, .inl sv))], [(h0, .inr (9, [.int 0, .ref k1, .int sd, .ref k2, .ref k3, .int ln, .int at0, .int pt, .int mi, .int nu, .long ha]))]] : List va_W).flatten H := hP
  have hD : va_D A ([[(k1, .inl (E.2 0, 1160, .inl sv))], [(h0, .inr (9, [.int 0, .ref k1, .int sd, .ref k2, .ref k3, .int ln, .int at0, .int pt, .int mi, .int nu, .long ha]))]] : List va_W).flatten := hD
  refine W.eq (g2 := F0 Mi 21 ls [.int (m_z01 0)]) rfl ?_
  refine lv_if_ne (tgt := 26) hx hb dX10_calibrate_21 (by decide) (fun _ => ?_) (fun h9 => absurd h9 ((by decide)))
  refine lv_aload_n hx hb dX10_calibrate_26 rfl (lv_at hl 0 rfl) ?_
  have hPc : va_P E.1 vwCl ([[(h0, .inr (9, [.int 0, .ref k1, .int sd, .ref k2, .ref k3, .int ln, .int at0, .int pt, .int mi, .int nu, .long ha]))], [(k1, .inl (E.2 0, 1160, .inl sv))]] : List va_W).flatten H := zf_sub hP [1, 0] rfl
  have hDc : va_D A ([[(h0, .inr (9, [.int 0, .ref k1, .int sd, .ref k2, .ref k3, .int ln, .int at0, .int pt, .int mi, .int nu, .long ha]))], [(k1, .inl (E.2 0, 1160, .inl sv))]] : List va_W).flatten := zf_subD hD [1, 0] (by decide) rfl
  refine z_mut (Sc := [[(h0, .inr (9, [.int 0, .ref k1, .int sd, .ref k2, .ref k3, .int ln, .int at0, .int pt, .int mi, .int nu, .long ha]))], [(k1, .inl (E.2 0, 1160, .inl sv))]]) (Sr := []) (W1 := [[(h0, .inr (9, [.int 0, .ref k1, .int (nI (m_svC d)), .ref k2, .ref k3, .int ln, .int at0, .int pt, .int mi, .int nu, .long ha]))], [(k1, .inl (E.2 0, 1160, .inl (m_svA sv d)))]]) (va_runV (As := []) (rest := []) ⟨hx, hb, hml, hown, hts⟩ (c_X10_save l E h0 k1 k2 k3 0 sd ln at0 pt mi nu ha sv d hsd hd H.size) (cwV 0 hts gX10_calibrate_X10_save rfl rfl rfl (by decide +kernel) ⟨Nat.le_of_ble_eq_true rfl, Nat.le_of_ble_eq_true rfl⟩) ⟨zP.blind, va_recv hK.1 hPc (ci := 9) (q0 := 0) rfl rfl, z_pre hK hPc hDc⟩ rfl rfl hl.1 rfl (lv_room (Nat.le_of_ble_eq_true rfl)) dX10_calibrate_27 ⟨Nat.le_of_ble_eq_true rfl, Nat.le_of_ble_eq_true rfl⟩) hP hD hS hA [1, 0] [] rfl rfl (by decide) (by decide) (fun H locs hP hD hS => ?_)
  have hP : va_P E.1 vwCl ([[(h0, .inr (9, [.int 0, .ref k1, .int (nI (m_svC d)), .ref k2, .ref k3, .int ln, .int at0, .int pt, .int mi, .int nu, .long ha]))], [(k1, .inl (E.2 0, 1160, .inl (m_svA sv d)))]] : List va_W).flatten H := hP
  have hD : va_D A ([[(h0, .inr (9, [.int 0, .ref k1, .int (nI (m_svC d)), .ref k2, .ref k3, .int ln, .int at0, .int pt, .int mi, .int nu, .long ha]))], [(k1, .inl (E.2 0, 1160, .inl (m_svA sv d)))]] : List va_W).flatten := hD
  refine W.eq (g2 := F0 Mi 30 ls []) rfl ?_
  refine lv_aload_n hx hb dX10_calibrate_30 rfl (lv_at hl 0 rfl) ?_
  refine lv_iload_n hx hb dX10_calibrate_31 rfl (lv_at hl 1 rfl) ?_
  have hPc : va_P E.1 vwCl ([[(h0, .inr (9, [.int 0, .ref k1, .int (nI (m_svC d)), .ref k2, .ref k3, .int ln, .int at0, .int pt, .int mi, .int nu, .long ha]))], [(k1, .inl (E.2 0, 1160, .inl (m_svA sv d)))]] : List va_W).flatten H := zf_sub hP [0, 1] rfl
  have hDc : va_D A ([[(h0, .inr (9, [.int 0, .ref k1, .int (nI (m_svC d)), .ref k2, .ref k3, .int ln, .int at0, .int pt, .int mi, .int nu, .long ha]))], [(k1, .inl (E.2 0, 1160, .inl (m_svA sv d)))]] : List va_W).flatten := zf_subD hD [0, 1] (by decide) rfl
  refine z_mut (Sc := [[(h0, .inr (9, [.int 0, .ref k1, .int (nI (m_svC d)), .ref k2, .ref k3, .int ln, .int at0, .int pt, .int mi, .int nu, .long ha]))], [(k1, .inl (E.2 0, 1160, .inl (m_svA sv d)))]]) (Sr := []) (W1 := [[(h0, .inr (9, [.int 0, .ref k1, .int (nI (m_svC d)), .ref k2, .ref k3, .int ln, .int at0, .int pt, .int mi, .int nu, .long ha]))], [(k1, .inl (E.2 0, 1160, .inl (m_caA (m_svA sv d) x)))]]) (va_runV (As := [.int x]) (rest := []) ⟨hx, hb, hml, hown, hts⟩ (c_X10_calibrates l E h0 k1 k2 k3 0 (nI (m_svC d)) ln at0 pt mi nu ha (m_svA sv d) x H.size) (cwV 1 hts gX10_calibrate_X10_calibrates rfl rfl rfl (by decide +kernel) ⟨Nat.le_of_ble_eq_true rfl, Nat.le_of_ble_eq_true rfl⟩) ⟨zP.blind, va_recv hK.1 hPc (ci := 9) (q0 := 0) rfl rfl, z_pre hK hPc hDc⟩ rfl rfl hl.1 rfl (lv_room (Nat.le_of_ble_eq_true rfl)) dX10_calibrate_32 ⟨Nat.le_of_ble_eq_true rfl, Nat.le_of_ble_eq_true rfl⟩) hP hD hS hA [0, 1] [] rfl rfl (by decide) (by decide) (fun H locs hP hD hS => ?_)
  have hP : va_P E.1 vwCl ([[(h0, .inr (9, [.int 0, .ref k1, .int (nI (m_svC d)), .ref k2, .ref k3, .int ln, .int at0, .int pt, .int mi, .int nu, .long ha]))], [(k1, .inl (E.2 0, 1160, .inl (m_caA (m_svA sv d) x)))]] : List va_W).flatten H := hP
  have hD : va_D A ([[(h0, .inr (9, [.int 0, .ref k1, .int (nI (m_svC d)), .ref k2, .ref k3, .int ln, .int at0, .int pt, .int mi, .int nu, .long ha]))], [(k1, .inl (E.2 0, 1160, .inl (m_caA (m_svA sv d) x)))]] : List va_W).flatten := hD
  refine W.eq (g2 := F0 Mi 35 ls [.int (m_std ((m_svA sv d) (0 + 0)) - m_std ((m_svA sv d) (0 + 1)) - x)]) rfl ?_
  have hP : va_P E.1 vwCl ([[(h0, .inr (9, [.int 0, .ref k1, .int (nI (m_svC d)), .ref k2, .ref k3, .int ln, .int at0, .int pt, .int mi, .int nu, .long ha]))], [(k1, .inl (E.2 0, 1160, .inl (m_caA (m_svA sv d) x)))]] : List va_W).flatten H := zf_sub hP [0, 1] rfl
  have hD : va_D A ([[(h0, .inr (9, [.int 0, .ref k1, .int (nI (m_svC d)), .ref k2, .ref k3, .int ln, .int at0, .int pt, .int mi, .int nu, .long ha]))], [(k1, .inl (E.2 0, 1160, .inl (m_caA (m_svA sv d) x)))]] : List va_W).flatten := zf_subD hD [0, 1] (by decide) rfl
  exact W.iret (v := (m_std ((m_svA sv d) (0 + 0)) - m_std ((m_svA sv d) (0 + 1)) - x)) hx hb hr (z_end hP hD hS rfl) hS.2.2 dX10_calibrate_35 hlocks

set_option maxHeartbeats 4000000 in
set_option maxRecDepth 100000 in
theorem c_X10_setSea_n (l : Launch) (E : zE) (h0 k1 k2 k3 : Nat) (th sd ln at0 pt mi nu : Int32) (ha : Int64) (sv : Nat → Int32) (x : Int32) (hok : m_in x 9000 10800 = 0) : zM l yX10_setSea wsX10_setSea ({ frames := 1, cells := 0, slots := 0, locals := 22 }) E [.ref h0, .int x] ([[(h0, .inr (9, [.int th, .ref k1, .int sd, .ref k2, .ref k3, .int ln, .int at0, .int pt, .int mi, .int nu, .long ha]))], [(k1, .inl (E.2 0, 1160, .inl sv))]] : List va_W).flatten (some (.int 0)) ([[(h0, .inr (9, [.int 1, .ref k1, .int sd, .ref k2, .ref k3, .int ln, .int at0, .int pt, .int mi, .int nu, .long ha]))], [(k1, .inl (E.2 0, 1160, .inl sv))]] : List va_W).flatten 0 0 := by
  refine z_start (cc := cX10_setSea) (maxL := 3) (ret := (some .int)) (by decide) rfl (Nat.le_of_ble_eq_true rfl) ?_
  intro Pg En s Mi below meth Cd A hx hb hr hts hown hlocks hin hml hA H hH hP hK hD hS ls hl
  have hl : lv_has ls 3 [(0, .ref h0), (1, .int x)] := hl
  refine lv_aload_n hx hb dX10_setSea_0 rfl (lv_at hl 0 rfl) ?_
  refine lv_iload_n hx hb dX10_setSea_1 rfl (lv_at hl 1 rfl) ?_
  refine lv_sipush (v := 9000) hx hb dX10_setSea_2 (by decide) ?_
  refine lv_sipush (v := 10800) hx hb dX10_setSea_5 (by decide) ?_
  refine z_rdv (va_runS (As := [.int x, .int 9000, .int 10800]) (rest := [.ref h0]) ⟨hx, hb, hml, hown, hts⟩ (c_X10_in l E x 9000 10800) (va_cwS 3 hts gX10_setSea_X10_in rfl rfl rfl (by decide +kernel) ⟨Nat.le_of_ble_eq_true rfl, Nat.le_of_ble_eq_true rfl⟩) ⟨zPr.blind, z_prer hK zP_nil⟩ rfl rfl hl.1 rfl (lv_room (Nat.le_of_ble_eq_true rfl)) dX10_setSea_8 ⟨Nat.le_of_ble_eq_true rfl, Nat.le_of_ble_eq_true rfl⟩) ?_
  refine W.eq (g2 := F0 Mi 11 ls [.int (m_in x 9000 10800), .ref h0]) rfl ?_
  refine lv_if_eq (tgt := 18) hx hb dX10_setSea_11 (by decide) (fun _ => ?_) (fun h9 => absurd (hok) h9)
  refine lv_iconst (v := 1) hx hb dX10_setSea_18 (by decide) ?_
  have hPc : va_P E.1 vwCl ([[(h0, .inr (9, [.int th, .ref k1, .int sd, .ref k2, .ref k3, .int ln, .int at0, .int pt, .int mi, .int nu, .long ha]))]] : List va_W).flatten H := zf_sub hP [0] rfl
  have hDc : va_D A ([[(h0, .inr (9, [.int th, .ref k1, .int sd, .ref k2, .ref k3, .int ln, .int at0, .int pt, .int mi, .int nu, .long ha]))]] : List va_W).flatten := zf_subD hD [0] (by decide) rfl
  refine z_mut (Sc := [[(h0, .inr (9, [.int th, .ref k1, .int sd, .ref k2, .ref k3, .int ln, .int at0, .int pt, .int mi, .int nu, .long ha]))]]) (Sr := [[(k1, .inl (E.2 0, 1160, .inl sv))]]) (W1 := [[(h0, .inr (9, [.int 1, .ref k1, .int sd, .ref k2, .ref k3, .int ln, .int at0, .int pt, .int mi, .int nu, .long ha]))]]) (va_runV (As := [.int 1]) (rest := []) ⟨hx, hb, hml, hown, hts⟩ (c_X10_holds l E h0 k1 k2 k3 th sd ln at0 pt mi nu ha 1 H.size) (cwV 1 hts gX10_setSea_X10_holds rfl rfl rfl (by decide +kernel) ⟨Nat.le_of_ble_eq_true rfl, Nat.le_of_ble_eq_true rfl⟩) ⟨zP.blind, va_recv hK.1 hPc (ci := 9) (q0 := 0) rfl rfl, z_pre hK hPc hDc⟩ rfl rfl hl.1 rfl (lv_room (Nat.le_of_ble_eq_true rfl)) dX10_setSea_19 ⟨Nat.le_of_ble_eq_true rfl, Nat.le_of_ble_eq_true rfl⟩) hP hD hS hA [0] [1] rfl rfl (by decide) (by decide) (fun H locs hP hD hS => ?_)
  have hP : va_P E.1 vwCl ([[(k1, .inl (E.2 0, 1160, .inl sv))], [(h0, .inr (9, [.int 1, .ref k1, .int sd, .ref k2, .ref k3, .int ln, .int at0, .int pt, .int mi, .int nu, .long ha]))]] : List va_W).flatten H := hP
  have hD : va_D A ([[(k1, .inl (E.2 0, 1160, .inl sv))], [(h0, .inr (9, [.int 1, .ref k1, .int sd, .ref k2, .ref k3, .int ln, .int at0, .int pt, .int mi, .int nu, .long ha]))]] : List va_W).flatten := hD
  refine W.eq (g2 := F0 Mi 22 ls [.int (m_z01 1)]) rfl ?_
  refine lv_if_ne (tgt := 27) hx hb dX10_setSea_22 (by decide) (fun h9 => absurd h9 ((by decide))) (fun _ => ?_)
  refine lv_iconst (v := 0) hx hb dX10_setSea_25 (by decide) ?_
  have hP : va_P E.1 vwCl ([[(h0, .inr (9, [.int 1, .ref k1, .int sd, .ref k2, .ref k3, .int ln, .int at0, .int pt, .int mi, .int nu, .long ha]))], [(k1, .inl (E.2 0, 1160, .inl sv))]] : List va_W).flatten H := zf_sub hP [1, 0] rfl
  have hD : va_D A ([[(h0, .inr (9, [.int 1, .ref k1, .int sd, .ref k2, .ref k3, .int ln, .int at0, .int pt, .int mi, .int nu, .long ha]))], [(k1, .inl (E.2 0, 1160, .inl sv))]] : List va_W).flatten := zf_subD hD [1, 0] (by decide) rfl
  exact W.iret (v := 0) hx hb hr (z_end hP hD hS rfl) hS.2.2 dX10_setSea_26 hlocks

set_option maxHeartbeats 4000000 in
set_option maxRecDepth 100000 in
theorem c_X10_setSea_y (l : Launch) (E : zE) (h0 k1 k2 k3 : Nat) (th sd ln at0 pt mi nu : Int32) (ha : Int64) (sv : Nat → Int32) (x : Int32) (d : Nat) (hsd : sd = nI d) (hd : d ≤ 6) (hok : m_in x 9000 10800 = 1) : zM l yX10_setSea wsX10_setSea ({ frames := 3, cells := 0, slots := 0, locals := 67 }) E [.ref h0, .int x] ([[(h0, .inr (9, [.int th, .ref k1, .int sd, .ref k2, .ref k3, .int ln, .int at0, .int pt, .int mi, .int nu, .long ha]))], [(k1, .inl (E.2 0, 1160, .inl sv))]] : List va_W).flatten (some (.int (sv 1))) ([[(h0, .inr (9, [.int 0, .ref k1, .int (nI (m_svC d)), .ref k2, .ref k3, .int ln, .int at0, .int pt, .int mi, .int nu, .long ha]))], [(k1, .inl (E.2 0, 1160, .inl (m_stA (upd (m_svA sv d) 1 x))))]] : List va_W).flatten 0 0 := by
  refine z_start (cc := cX10_setSea) (maxL := 3) (ret := (some .int)) (by decide) rfl (Nat.le_of_ble_eq_true rfl) ?_
  intro Pg En s Mi below meth Cd A hx hb hr hts hown hlocks hin hml hA H hH hP hK hD hS ls hl
  have hl : lv_has ls 3 [(0, .ref h0), (1, .int x)] := hl
  refine lv_aload_n hx hb dX10_setSea_0 rfl (lv_at hl 0 rfl) ?_
  refine lv_iload_n hx hb dX10_setSea_1 rfl (lv_at hl 1 rfl) ?_
  refine lv_sipush (v := 9000) hx hb dX10_setSea_2 (by decide) ?_
  refine lv_sipush (v := 10800) hx hb dX10_setSea_5 (by decide) ?_
  refine z_rdv (va_runS (As := [.int x, .int 9000, .int 10800]) (rest := [.ref h0]) ⟨hx, hb, hml, hown, hts⟩ (c_X10_in l E x 9000 10800) (va_cwS 3 hts gX10_setSea_X10_in rfl rfl rfl (by decide +kernel) ⟨Nat.le_of_ble_eq_true rfl, Nat.le_of_ble_eq_true rfl⟩) ⟨zPr.blind, z_prer hK zP_nil⟩ rfl rfl hl.1 rfl (lv_room (Nat.le_of_ble_eq_true rfl)) dX10_setSea_8 ⟨Nat.le_of_ble_eq_true rfl, Nat.le_of_ble_eq_true rfl⟩) ?_
  refine W.eq (g2 := F0 Mi 11 ls [.int (m_in x 9000 10800), .ref h0]) rfl ?_
  refine lv_if_eq (tgt := 18) hx hb dX10_setSea_11 (by decide) (fun h9 => absurd h9 ((by rw [hok]; decide))) (fun _ => ?_)
  refine lv_iconst (v := 0) hx hb dX10_setSea_14 (by decide) ?_
  refine lv_goto (tgt := 19) hx hb dX10_setSea_15 (by decide) ?_
  have hPc : va_P E.1 vwCl ([[(h0, .inr (9, [.int th, .ref k1, .int sd, .ref k2, .ref k3, .int ln, .int at0, .int pt, .int mi, .int nu, .long ha]))]] : List va_W).flatten H := zf_sub hP [0] rfl
  have hDc : va_D A ([[(h0, .inr (9, [.int th, .ref k1, .int sd, .ref k2, .ref k3, .int ln, .int at0, .int pt, .int mi, .int nu, .long ha]))]] : List va_W).flatten := zf_subD hD [0] (by decide) rfl
  refine z_mut (Sc := [[(h0, .inr (9, [.int th, .ref k1, .int sd, .ref k2, .ref k3, .int ln, .int at0, .int pt, .int mi, .int nu, .long ha]))]]) (Sr := [[(k1, .inl (E.2 0, 1160, .inl sv))]]) (W1 := [[(h0, .inr (9, [.int 0, .ref k1, .int sd, .ref k2, .ref k3, .int ln, .int at0, .int pt, .int mi, .int nu, .long ha]))]]) (va_runV (As := [.int 0]) (rest := []) ⟨hx, hb, hml, hown, hts⟩ (c_X10_holds l E h0 k1 k2 k3 th sd ln at0 pt mi nu ha 0 H.size) (cwV 1 hts gX10_setSea_X10_holds rfl rfl rfl (by decide +kernel) ⟨Nat.le_of_ble_eq_true rfl, Nat.le_of_ble_eq_true rfl⟩) ⟨zP.blind, va_recv hK.1 hPc (ci := 9) (q0 := 0) rfl rfl, z_pre hK hPc hDc⟩ rfl rfl hl.1 rfl (lv_room (Nat.le_of_ble_eq_true rfl)) dX10_setSea_19 ⟨Nat.le_of_ble_eq_true rfl, Nat.le_of_ble_eq_true rfl⟩) hP hD hS hA [0] [1] rfl rfl (by decide) (by decide) (fun H locs hP hD hS => ?_)
  have hP : va_P E.1 vwCl ([[(k1, .inl (E.2 0, 1160, .inl sv))], [(h0, .inr (9, [.int 0, .ref k1, .int sd, .ref k2, .ref k3, .int ln, .int at0, .int pt, .int mi, .int nu, .long ha]))]] : List va_W).flatten H := hP
  have hD : va_D A ([[(k1, .inl (E.2 0, 1160, .inl sv))], [(h0, .inr (9, [.int 0, .ref k1, .int sd, .ref k2, .ref k3, .int ln, .int at0, .int pt, .int mi, .int nu, .long ha]))]] : List va_W).flatten := hD
  refine W.eq (g2 := F0 Mi 22 ls [.int (m_z01 0)]) rfl ?_
  refine lv_if_ne (tgt := 27) hx hb dX10_setSea_22 (by decide) (fun _ => ?_) (fun h9 => absurd h9 ((by decide)))
  refine lv_aload_n hx hb dX10_setSea_27 rfl (lv_at hl 0 rfl) ?_
  refine lv_iconst (v := 1) hx hb dX10_setSea_28 (by decide) ?_
  refine lv_iload_n hx hb dX10_setSea_29 rfl (lv_at hl 1 rfl) ?_
  have hPc : va_P E.1 vwCl ([[(h0, .inr (9, [.int 0, .ref k1, .int sd, .ref k2, .ref k3, .int ln, .int at0, .int pt, .int mi, .int nu, .long ha]))], [(k1, .inl (E.2 0, 1160, .inl sv))]] : List va_W).flatten H := zf_sub hP [1, 0] rfl
  have hDc : va_D A ([[(h0, .inr (9, [.int 0, .ref k1, .int sd, .ref k2, .ref k3, .int ln, .int at0, .int pt, .int mi, .int nu, .long ha]))], [(k1, .inl (E.2 0, 1160, .inl sv))]] : List va_W).flatten := zf_subD hD [1, 0] (by decide) rfl
  refine z_mut (Sc := [[(h0, .inr (9, [.int 0, .ref k1, .int sd, .ref k2, .ref k3, .int ln, .int at0, .int pt, .int mi, .int nu, .long ha]))], [(k1, .inl (E.2 0, 1160, .inl sv))]]) (Sr := []) (W1 := [[(h0, .inr (9, [.int 0, .ref k1, .int (nI (m_svC d)), .ref k2, .ref k3, .int ln, .int at0, .int pt, .int mi, .int nu, .long ha]))], [(k1, .inl (E.2 0, 1160, .inl (upd (m_svA sv d) 1 x)))]]) (va_runV (As := [.int 1, .int x]) (rest := []) ⟨hx, hb, hml, hown, hts⟩ (c_X10_changed l E h0 k1 k2 k3 0 sd ln at0 pt mi nu ha sv d hsd hd 1 x 1 rfl (by decide) H.size) (cwV 2 hts gX10_setSea_X10_changed rfl rfl rfl (by decide +kernel) ⟨Nat.le_of_ble_eq_true rfl, Nat.le_of_ble_eq_true rfl⟩) ⟨zP.blind, va_recv hK.1 hPc (ci := 9) (q0 := 0) rfl rfl, z_pre hK hPc hDc⟩ rfl rfl hl.1 rfl (lv_room (Nat.le_of_ble_eq_true rfl)) dX10_setSea_30 ⟨Nat.le_of_ble_eq_true rfl, Nat.le_of_ble_eq_true rfl⟩) hP hD hS hA [1, 0] [] rfl rfl (by decide) (by decide) (fun H locs hP hD hS => ?_)
  have hP : va_P E.1 vwCl ([[(h0, .inr (9, [.int 0, .ref k1, .int (nI (m_svC d)), .ref k2, .ref k3, .int ln, .int at0, .int pt, .int mi, .int nu, .long ha]))], [(k1, .inl (E.2 0, 1160, .inl (upd (m_svA sv d) 1 x)))]] : List va_W).flatten H := hP
  have hD : va_D A ([[(h0, .inr (9, [.int 0, .ref k1, .int (nI (m_svC d)), .ref k2, .ref k3, .int ln, .int at0, .int pt, .int mi, .int nu, .long ha]))], [(k1, .inl (E.2 0, 1160, .inl (upd (m_svA sv d) 1 x)))]] : List va_W).flatten := hD
  refine W.eq (g2 := F0 Mi 33 ls [.int (sv 1)]) rfl ?_
  refine lv_topi (fun f_1 ef_1 => ?_)
  refine lv_istore_n (lv' := [(2, .int f_1), (0, .ref h0), (1, .int x)]) hx hb dX10_setSea_33 rfl hl (by decide) rfl (fun ls hl => ?_)
  refine lv_aload_n hx hb dX10_setSea_34 rfl (lv_at hl 1 rfl) ?_
  have hPc : va_P E.1 vwCl ([[(h0, .inr (9, [.int 0, .ref k1, .int (nI (m_svC d)), .ref k2, .ref k3, .int ln, .int at0, .int pt, .int mi, .int nu, .long ha]))], [(k1, .inl (E.2 0, 1160, .inl (upd (m_svA sv d) 1 x)))]] : List va_W).flatten H := zf_sub hP [0, 1] rfl
  have hDc : va_D A ([[(h0, .inr (9, [.int 0, .ref k1, .int (nI (m_svC d)), .ref k2, .ref k3, .int ln, .int at0, .int pt, .int mi, .int nu, .long ha]))], [(k1, .inl (E.2 0, 1160, .inl (upd (m_svA sv d) 1 x)))]] : List va_W).flatten := zf_subD hD [0, 1] (by decide) rfl
  refine z_mut (Sc := [[(h0, .inr (9, [.int 0, .ref k1, .int (nI (m_svC d)), .ref k2, .ref k3, .int ln, .int at0, .int pt, .int mi, .int nu, .long ha]))], [(k1, .inl (E.2 0, 1160, .inl (upd (m_svA sv d) 1 x)))]]) (Sr := []) (W1 := [[(h0, .inr (9, [.int 0, .ref k1, .int (nI (m_svC d)), .ref k2, .ref k3, .int ln, .int at0, .int pt, .int mi, .int nu, .long ha]))], [(k1, .inl (E.2 0, 1160, .inl (m_stA (upd (m_svA sv d) 1 x))))]]) (va_runV (As := []) (rest := []) ⟨hx, hb, hml, hown, hts⟩ (c_X10_settles l E h0 k1 k2 k3 0 (nI (m_svC d)) ln at0 pt mi nu ha (upd (m_svA sv d) 1 x) H.size) (cwV 0 hts gX10_setSea_X10_settles rfl rfl rfl (by decide +kernel) ⟨Nat.le_of_ble_eq_true rfl, Nat.le_of_ble_eq_true rfl⟩) ⟨zP.blind, va_recv hK.1 hPc (ci := 9) (q0 := 0) rfl rfl, z_pre hK hPc hDc⟩ rfl rfl hl.1 rfl (lv_room (Nat.le_of_ble_eq_true rfl)) dX10_setSea_35 ⟨Nat.le_of_ble_eq_true rfl, Nat.le_of_ble_eq_true rfl⟩) hP hD hS hA [0, 1] [] rfl rfl (by decide) (by decide) (fun H locs hP hD hS => ?_)
  have hP : va_P E.1 vwCl ([[(h0, .inr (9, [.int 0, .ref k1, .int (nI (m_svC d)), .ref k2, .ref k3, .int ln, .int at0, .int pt, .int mi, .int nu, .long ha]))], [(k1, .inl (E.2 0, 1160, .inl (m_stA (upd (m_svA sv d) 1 x))))]] : List va_W).flatten H := hP
  have hD : va_D A ([[(h0, .inr (9, [.int 0, .ref k1, .int (nI (m_svC d)), .ref k2, .ref k3, .int ln, .int at0, .int pt, .int mi, .int nu, .long ha]))], [(k1, .inl (E.2 0, 1160, .inl (m_stA (upd (m_svA sv d) 1 x))))]] : List va_W).flatten := hD
  refine W.eq (g2 := F0 Mi 38 ls []) rfl ?_
  refine lv_iload_n hx hb dX10_setSea_38 rfl (lv_at hl 0 rfl) ?_
  refine z_topi (y := sv 1) ef_1 ?_
  have hP : va_P E.1 vwCl ([[(h0, .inr (9, [.int 0, .ref k1, .int (nI (m_svC d)), .ref k2, .ref k3, .int ln, .int at0, .int pt, .int mi, .int nu, .long ha]))], [(k1, .inl (E.2 0, 1160, .inl (m_stA (upd (m_svA sv d) 1 x))))]] : List va_W).flatten H := zf_sub hP [0, 1] rfl
  have hD : va_D A ([[(h0, .inr (9, [.int 0, .ref k1, .int (nI (m_svC d)), .ref k2, .ref k3, .int ln, .int at0, .int pt, .int mi, .int nu, .long ha]))], [(k1, .inl (E.2 0, 1160, .inl (m_stA (upd (m_svA sv d) 1 x))))]] : List va_W).flatten := zf_subD hD [0, 1] (by decide) rfl
  exact W.iret (v := sv 1) hx hb hr (z_end hP hD hS rfl) hS.2.2 dX10_setSea_39 hlocks

set_option maxHeartbeats 4000000 in
set_option maxRecDepth 100000 in
theorem c_X10_setMark (l : Launch) (E : zE) (h0 k1 k2 k3 : Nat) (th sd ln at0 pt mi nu : Int32) (ha : Int64) (sv : Nat → Int32) (d : Nat) (hsd : sd = nI d) (hd : d ≤ 6) (c0 : Nat) (hc : sv 75 = nI c0) (hc9 : c0 ≤ 10) : zM l yX10_setMark wsX10_setMark ({ frames := 3, cells := 0, slots := 0, locals := 63 }) E [.ref h0] ([[(h0, .inr (9, [.int th, .ref k1, .int sd, .ref k2, .ref k3, .int ln, .int at0, .int pt, .int mi, .int nu, .long ha]))], [(k1, .inl (E.2 0, 1160, .inl sv))]] : List va_W).flatten (some (.int (nI (m_mkN c0 + 1)))) ([[(h0, .inr (9, [.int 0, .ref k1, .int (nI (m_svC d)), .ref k2, .ref k3, .int ln, .int at0, .int pt, .int mi, .int nu, .long ha]))], [(k1, .inl (E.2 0, 1160, .inl (m_mkA (m_svA sv d) c0)))]] : List va_W).flatten 0 0 := by
  refine z_start (cc := cX10_setMark) (maxL := 1) (ret := (some .int)) (by decide) rfl (Nat.le_of_ble_eq_true rfl) ?_
  intro Pg En s Mi below meth Cd A hx hb hr hts hown hlocks hin hml hA H hH hP hK hD hS ls hl
  have hl : lv_has ls 1 [(0, .ref h0)] := hl
  have hi_X10 : ∀ w ∈ wsX100, w ∈ wsX10_setMark := by decide +kernel
  refine lv_aload_n hx hb dX10_setMark_0 rfl (lv_at hl 0 rfl) ?_
  refine lv_iconst (v := 0) hx hb dX10_setMark_1 (by decide) ?_
  refine va_put (D := E.1) (ci := 9) (v := .int 0) (ty := .int) (C := RX10) (T := TX10) (N := 11) hx hb hts hi_X10 tyX10 tyX10_ok nmX10 hown hK.1 hP hD hS 0 rfl rfl 0 (by decide) (hts (.fieldLink RX10 20 "AltimeterWatchModel" "thrown" "I") (by decide +kernel)) (fun _ h9 => h9) rfl (by decide +kernel) rfl rfl (Nat.le_of_ble_eq_true rfl) dX10_setMark_2 (fun H locs hP hD hS => ?_)
  have hP : va_P E.1 vwCl ([[(h0, .inr (9, [.int 0, .ref k1, .int sd, .ref k2, .ref k3, .int ln, .int at0, .int pt, .int mi, .int nu, .long ha]))], [(k1, .inl (E.2 0, 1160, .inl sv))]] : List va_W).flatten H := hP
  have hD : va_D A ([[(h0, .inr (9, [.int 0, .ref k1, .int sd, .ref k2, .ref k3, .int ln, .int at0, .int pt, .int mi, .int nu, .long ha]))], [(k1, .inl (E.2 0, 1160, .inl sv))]] : List va_W).flatten := hD
  refine lv_aload_n hx hb dX10_setMark_5 rfl (lv_at hl 0 rfl) ?_
  have hPc : va_P E.1 vwCl ([[(h0, .inr (9, [.int 0, .ref k1, .int sd, .ref k2, .ref k3, .int ln, .int at0, .int pt, .int mi, .int nu, .long ha]))], [(k1, .inl (E.2 0, 1160, .inl sv))]] : List va_W).flatten H := zf_sub hP [0, 1] rfl
  have hDc : va_D A ([[(h0, .inr (9, [.int 0, .ref k1, .int sd, .ref k2, .ref k3, .int ln, .int at0, .int pt, .int mi, .int nu, .long ha]))], [(k1, .inl (E.2 0, 1160, .inl sv))]] : List va_W).flatten := zf_subD hD [0, 1] (by decide) rfl
  refine z_mut (Sc := [[(h0, .inr (9, [.int 0, .ref k1, .int sd, .ref k2, .ref k3, .int ln, .int at0, .int pt, .int mi, .int nu, .long ha]))], [(k1, .inl (E.2 0, 1160, .inl sv))]]) (Sr := []) (W1 := [[(h0, .inr (9, [.int 0, .ref k1, .int (nI (m_svC d)), .ref k2, .ref k3, .int ln, .int at0, .int pt, .int mi, .int nu, .long ha]))], [(k1, .inl (E.2 0, 1160, .inl (m_svA sv d)))]]) (va_runV (As := []) (rest := []) ⟨hx, hb, hml, hown, hts⟩ (c_X10_save l E h0 k1 k2 k3 0 sd ln at0 pt mi nu ha sv d hsd hd H.size) (cwV 0 hts gX10_setMark_X10_save rfl rfl rfl (by decide +kernel) ⟨Nat.le_of_ble_eq_true rfl, Nat.le_of_ble_eq_true rfl⟩) ⟨zP.blind, va_recv hK.1 hPc (ci := 9) (q0 := 0) rfl rfl, z_pre hK hPc hDc⟩ rfl rfl hl.1 rfl (lv_room (Nat.le_of_ble_eq_true rfl)) dX10_setMark_6 ⟨Nat.le_of_ble_eq_true rfl, Nat.le_of_ble_eq_true rfl⟩) hP hD hS hA [0, 1] [] rfl rfl (by decide) (by decide) (fun H locs hP hD hS => ?_)
  have hP : va_P E.1 vwCl ([[(h0, .inr (9, [.int 0, .ref k1, .int (nI (m_svC d)), .ref k2, .ref k3, .int ln, .int at0, .int pt, .int mi, .int nu, .long ha]))], [(k1, .inl (E.2 0, 1160, .inl (m_svA sv d)))]] : List va_W).flatten H := hP
  have hD : va_D A ([[(h0, .inr (9, [.int 0, .ref k1, .int (nI (m_svC d)), .ref k2, .ref k3, .int ln, .int at0, .int pt, .int mi, .int nu, .long ha]))], [(k1, .inl (E.2 0, 1160, .inl (m_svA sv d)))]] : List va_W).flatten := hD
  refine W.eq (g2 := F0 Mi 9 ls []) rfl ?_
  refine lv_aload_n hx hb dX10_setMark_9 rfl (lv_at hl 0 rfl) ?_
  have hPc : va_P E.1 vwCl ([[(h0, .inr (9, [.int 0, .ref k1, .int (nI (m_svC d)), .ref k2, .ref k3, .int ln, .int at0, .int pt, .int mi, .int nu, .long ha]))], [(k1, .inl (E.2 0, 1160, .inl (m_svA sv d)))]] : List va_W).flatten H := zf_sub hP [0, 1] rfl
  have hDc : va_D A ([[(h0, .inr (9, [.int 0, .ref k1, .int (nI (m_svC d)), .ref k2, .ref k3, .int ln, .int at0, .int pt, .int mi, .int nu, .long ha]))], [(k1, .inl (E.2 0, 1160, .inl (m_svA sv d)))]] : List va_W).flatten := zf_subD hD [0, 1] (by decide) rfl
  refine z_mut (Sc := [[(h0, .inr (9, [.int 0, .ref k1, .int (nI (m_svC d)), .ref k2, .ref k3, .int ln, .int at0, .int pt, .int mi, .int nu, .long ha]))], [(k1, .inl (E.2 0, 1160, .inl (m_svA sv d)))]]) (Sr := []) (W1 := [[(h0, .inr (9, [.int 0, .ref k1, .int (nI (m_svC d)), .ref k2, .ref k3, .int ln, .int at0, .int pt, .int mi, .int nu, .long ha]))], [(k1, .inl (E.2 0, 1160, .inl (m_mkA (m_svA sv d) c0)))]]) (va_runV (As := []) (rest := []) ⟨hx, hb, hml, hown, hts⟩ (c_X10_marked l E h0 k1 k2 k3 0 (nI (m_svC d)) ln at0 pt mi nu ha (m_svA sv d) c0 ((m_svA_lo (by decide)).trans hc) hc9 H.size) (cwV 0 hts gX10_setMark_X10_marked rfl rfl rfl (by decide +kernel) ⟨Nat.le_of_ble_eq_true rfl, Nat.le_of_ble_eq_true rfl⟩) ⟨zP.blind, va_recv hK.1 hPc (ci := 9) (q0 := 0) rfl rfl, z_pre hK hPc hDc⟩ rfl rfl hl.1 rfl (lv_room (Nat.le_of_ble_eq_true rfl)) dX10_setMark_10 ⟨Nat.le_of_ble_eq_true rfl, Nat.le_of_ble_eq_true rfl⟩) hP hD hS hA [0, 1] [] rfl rfl (by decide) (by decide) (fun H locs hP hD hS => ?_)
  have hP : va_P E.1 vwCl ([[(h0, .inr (9, [.int 0, .ref k1, .int (nI (m_svC d)), .ref k2, .ref k3, .int ln, .int at0, .int pt, .int mi, .int nu, .long ha]))], [(k1, .inl (E.2 0, 1160, .inl (m_mkA (m_svA sv d) c0)))]] : List va_W).flatten H := hP
  have hD : va_D A ([[(h0, .inr (9, [.int 0, .ref k1, .int (nI (m_svC d)), .ref k2, .ref k3, .int ln, .int at0, .int pt, .int mi, .int nu, .long ha]))], [(k1, .inl (E.2 0, 1160, .inl (m_mkA (m_svA sv d) c0)))]] : List va_W).flatten := hD
  refine W.eq (g2 := F0 Mi 13 ls [.int (nI (m_mkN c0 + 1))]) rfl ?_
  have hP : va_P E.1 vwCl ([[(h0, .inr (9, [.int 0, .ref k1, .int (nI (m_svC d)), .ref k2, .ref k3, .int ln, .int at0, .int pt, .int mi, .int nu, .long ha]))], [(k1, .inl (E.2 0, 1160, .inl (m_mkA (m_svA sv d) c0)))]] : List va_W).flatten H := zf_sub hP [0, 1] rfl
  have hD : va_D A ([[(h0, .inr (9, [.int 0, .ref k1, .int (nI (m_svC d)), .ref k2, .ref k3, .int ln, .int at0, .int pt, .int mi, .int nu, .long ha]))], [(k1, .inl (E.2 0, 1160, .inl (m_mkA (m_svA sv d) c0)))]] : List va_W).flatten := zf_subD hD [0, 1] (by decide) rfl
  exact W.iret (v := (nI (m_mkN c0 + 1))) hx hb hr (z_end hP hD hS rfl) hS.2.2 dX10_setMark_13 hlocks

set_option maxHeartbeats 4000000 in
set_option maxRecDepth 100000 in
theorem c_X10_markTime_n (l : Launch) (E : zE) (h0 k1 k2 k3 : Nat) (th sd ln at0 pt mi nu : Int32) (ha : Int64) (sv : Nat → Int32) (x : Int32) (hok : m_in x 0 (sv 75 - 1) = 0) : zM l yX10_markTime wsX10_markTime ({ frames := 2, cells := 0, slots := 0, locals := 43 }) E [.ref h0, .int x] ([[(h0, .inr (9, [.int th, .ref k1, .int sd, .ref k2, .ref k3, .int ln, .int at0, .int pt, .int mi, .int nu, .long ha]))], [(k1, .inl (E.2 0, 1160, .inl sv))]] : List va_W).flatten (some (.int 0)) ([[(h0, .inr (9, [.int 1, .ref k1, .int sd, .ref k2, .ref k3, .int ln, .int at0, .int pt, .int mi, .int nu, .long ha]))], [(k1, .inl (E.2 0, 1160, .inl sv))]] : List va_W).flatten 0 0 := by
  refine z_start (cc := cX10_markTime) (maxL := 2) (ret := (some .int)) (by decide) rfl (Nat.le_of_ble_eq_true rfl) ?_
  intro Pg En s Mi below meth Cd A hx hb hr hts hown hlocks hin hml hA H hH hP hK hD hS ls hl
  have hl : lv_has ls 2 [(0, .ref h0), (1, .int x)] := hl
  refine lv_aload_n hx hb dX10_markTime_0 rfl (lv_at hl 0 rfl) ?_
  refine lv_aload_n hx hb dX10_markTime_1 rfl (lv_at hl 0 rfl) ?_
  refine lv_iload_n hx hb dX10_markTime_2 rfl (lv_at hl 1 rfl) ?_
  have hPc : va_P E.1 vwCl ([[(h0, .inr (9, [.int th, .ref k1, .int sd, .ref k2, .ref k3, .int ln, .int at0, .int pt, .int mi, .int nu, .long ha]))], [(k1, .inl (E.2 0, 1160, .inl sv))]] : List va_W).flatten H := zf_sub hP [0, 1] rfl
  refine z_rdv (va_runV (As := [.int x]) (rest := [.ref h0]) ⟨hx, hb, hml, hown, hts⟩ (c_X10_isMark l E h0 k1 k2 k3 th sd ln at0 pt mi nu ha sv x) (cwV 1 hts gX10_markTime_X10_isMark rfl rfl rfl (by decide +kernel) ⟨Nat.le_of_ble_eq_true rfl, Nat.le_of_ble_eq_true rfl⟩) ⟨zPr.blind, va_recv hK.1 hPc (ci := 9) (q0 := 0) rfl rfl, z_prer hK hPc⟩ rfl rfl hl.1 rfl (lv_room (Nat.le_of_ble_eq_true rfl)) dX10_markTime_3 ⟨Nat.le_of_ble_eq_true rfl, Nat.le_of_ble_eq_true rfl⟩) ?_
  refine W.eq (g2 := F0 Mi 6 ls [.int (m_in x 0 (sv 75 - 1)), .ref h0]) rfl ?_
  refine lv_if_eq (tgt := 13) hx hb dX10_markTime_6 (by decide) (fun _ => ?_) (fun h9 => absurd (hok) h9)
  refine lv_iconst (v := 1) hx hb dX10_markTime_13 (by decide) ?_
  have hPc : va_P E.1 vwCl ([[(h0, .inr (9, [.int th, .ref k1, .int sd, .ref k2, .ref k3, .int ln, .int at0, .int pt, .int mi, .int nu, .long ha]))]] : List va_W).flatten H := zf_sub hP [0] rfl
  have hDc : va_D A ([[(h0, .inr (9, [.int th, .ref k1, .int sd, .ref k2, .ref k3, .int ln, .int at0, .int pt, .int mi, .int nu, .long ha]))]] : List va_W).flatten := zf_subD hD [0] (by decide) rfl
  refine z_mut (Sc := [[(h0, .inr (9, [.int th, .ref k1, .int sd, .ref k2, .ref k3, .int ln, .int at0, .int pt, .int mi, .int nu, .long ha]))]]) (Sr := [[(k1, .inl (E.2 0, 1160, .inl sv))]]) (W1 := [[(h0, .inr (9, [.int 1, .ref k1, .int sd, .ref k2, .ref k3, .int ln, .int at0, .int pt, .int mi, .int nu, .long ha]))]]) (va_runV (As := [.int 1]) (rest := []) ⟨hx, hb, hml, hown, hts⟩ (c_X10_holds l E h0 k1 k2 k3 th sd ln at0 pt mi nu ha 1 H.size) (cwV 1 hts gX10_markTime_X10_holds rfl rfl rfl (by decide +kernel) ⟨Nat.le_of_ble_eq_true rfl, Nat.le_of_ble_eq_true rfl⟩) ⟨zP.blind, va_recv hK.1 hPc (ci := 9) (q0 := 0) rfl rfl, z_pre hK hPc hDc⟩ rfl rfl hl.1 rfl (lv_room (Nat.le_of_ble_eq_true rfl)) dX10_markTime_14 ⟨Nat.le_of_ble_eq_true rfl, Nat.le_of_ble_eq_true rfl⟩) hP hD hS hA [0] [1] rfl rfl (by decide) (by decide) (fun H locs hP hD hS => ?_)
  have hP : va_P E.1 vwCl ([[(k1, .inl (E.2 0, 1160, .inl sv))], [(h0, .inr (9, [.int 1, .ref k1, .int sd, .ref k2, .ref k3, .int ln, .int at0, .int pt, .int mi, .int nu, .long ha]))]] : List va_W).flatten H := hP
  have hD : va_D A ([[(k1, .inl (E.2 0, 1160, .inl sv))], [(h0, .inr (9, [.int 1, .ref k1, .int sd, .ref k2, .ref k3, .int ln, .int at0, .int pt, .int mi, .int nu, .long ha]))]] : List va_W).flatten := hD
  refine W.eq (g2 := F0 Mi 17 ls [.int (m_z01 1)]) rfl ?_
  refine lv_if_eq (tgt := 34) hx hb dX10_markTime_17 (by decide) (fun _ => ?_) (fun h9 => absurd ((by decide)) h9)
  refine lv_iconst (v := 0) hx hb dX10_markTime_34 (by decide) ?_
  have hP : va_P E.1 vwCl ([[(h0, .inr (9, [.int 1, .ref k1, .int sd, .ref k2, .ref k3, .int ln, .int at0, .int pt, .int mi, .int nu, .long ha]))], [(k1, .inl (E.2 0, 1160, .inl sv))]] : List va_W).flatten H := zf_sub hP [1, 0] rfl
  have hD : va_D A ([[(h0, .inr (9, [.int 1, .ref k1, .int sd, .ref k2, .ref k3, .int ln, .int at0, .int pt, .int mi, .int nu, .long ha]))], [(k1, .inl (E.2 0, 1160, .inl sv))]] : List va_W).flatten := zf_subD hD [1, 0] (by decide) rfl
  exact W.iret (v := 0) hx hb hr (z_end hP hD hS rfl) hS.2.2 dX10_markTime_35 hlocks

set_option maxHeartbeats 4000000 in
set_option maxRecDepth 100000 in
theorem c_X10_markTime_y (l : Launch) (E : zE) (h0 k1 k2 k3 : Nat) (th sd ln at0 pt mi nu : Int32) (ha : Int64) (sv : Nat → Int32) (x : Int32) (k : Nat) (hx1 : x = nI k) (hk : k < 10) (hok : m_in x 0 (sv 75 - 1) = 1) : zM l yX10_markTime wsX10_markTime ({ frames := 2, cells := 0, slots := 0, locals := 43 }) E [.ref h0, .int x] ([[(h0, .inr (9, [.int th, .ref k1, .int sd, .ref k2, .ref k3, .int ln, .int at0, .int pt, .int mi, .int nu, .long ha]))], [(k1, .inl (E.2 0, 1160, .inl sv))]] : List va_W).flatten (some (.int (sv (76 + (4 * k))))) ([[(h0, .inr (9, [.int 0, .ref k1, .int sd, .ref k2, .ref k3, .int ln, .int at0, .int pt, .int mi, .int nu, .long ha]))], [(k1, .inl (E.2 0, 1160, .inl sv))]] : List va_W).flatten 0 0 := by
  refine z_start (cc := cX10_markTime) (maxL := 2) (ret := (some .int)) (by decide) rfl (Nat.le_of_ble_eq_true rfl) ?_
  intro Pg En s Mi below meth Cd A hx hb hr hts hown hlocks hin hml hA H hH hP hK hD hS ls hl
  have hl : lv_has ls 2 [(0, .ref h0), (1, .int x)] := hl
  have hi_X10 : ∀ w ∈ wsX100, w ∈ wsX10_markTime := by decide +kernel
  refine lv_aload_n hx hb dX10_markTime_0 rfl (lv_at hl 0 rfl) ?_
  refine lv_aload_n hx hb dX10_markTime_1 rfl (lv_at hl 0 rfl) ?_
  refine lv_iload_n hx hb dX10_markTime_2 rfl (lv_at hl 1 rfl) ?_
  have hPc : va_P E.1 vwCl ([[(h0, .inr (9, [.int th, .ref k1, .int sd, .ref k2, .ref k3, .int ln, .int at0, .int pt, .int mi, .int nu, .long ha]))], [(k1, .inl (E.2 0, 1160, .inl sv))]] : List va_W).flatten H := zf_sub hP [0, 1] rfl
  refine z_rdv (va_runV (As := [.int x]) (rest := [.ref h0]) ⟨hx, hb, hml, hown, hts⟩ (c_X10_isMark l E h0 k1 k2 k3 th sd ln at0 pt mi nu ha sv x) (cwV 1 hts gX10_markTime_X10_isMark rfl rfl rfl (by decide +kernel) ⟨Nat.le_of_ble_eq_true rfl, Nat.le_of_ble_eq_true rfl⟩) ⟨zPr.blind, va_recv hK.1 hPc (ci := 9) (q0 := 0) rfl rfl, z_prer hK hPc⟩ rfl rfl hl.1 rfl (lv_room (Nat.le_of_ble_eq_true rfl)) dX10_markTime_3 ⟨Nat.le_of_ble_eq_true rfl, Nat.le_of_ble_eq_true rfl⟩) ?_
  refine W.eq (g2 := F0 Mi 6 ls [.int (m_in x 0 (sv 75 - 1)), .ref h0]) rfl ?_
  refine lv_if_eq (tgt := 13) hx hb dX10_markTime_6 (by decide) (fun h9 => absurd h9 ((by rw [hok]; decide))) (fun _ => ?_)
  refine lv_iconst (v := 0) hx hb dX10_markTime_9 (by decide) ?_
  refine lv_goto (tgt := 14) hx hb dX10_markTime_10 (by decide) ?_
  have hPc : va_P E.1 vwCl ([[(h0, .inr (9, [.int th, .ref k1, .int sd, .ref k2, .ref k3, .int ln, .int at0, .int pt, .int mi, .int nu, .long ha]))]] : List va_W).flatten H := zf_sub hP [0] rfl
  have hDc : va_D A ([[(h0, .inr (9, [.int th, .ref k1, .int sd, .ref k2, .ref k3, .int ln, .int at0, .int pt, .int mi, .int nu, .long ha]))]] : List va_W).flatten := zf_subD hD [0] (by decide) rfl
  refine z_mut (Sc := [[(h0, .inr (9, [.int th, .ref k1, .int sd, .ref k2, .ref k3, .int ln, .int at0, .int pt, .int mi, .int nu, .long ha]))]]) (Sr := [[(k1, .inl (E.2 0, 1160, .inl sv))]]) (W1 := [[(h0, .inr (9, [.int 0, .ref k1, .int sd, .ref k2, .ref k3, .int ln, .int at0, .int pt, .int mi, .int nu, .long ha]))]]) (va_runV (As := [.int 0]) (rest := []) ⟨hx, hb, hml, hown, hts⟩ (c_X10_holds l E h0 k1 k2 k3 th sd ln at0 pt mi nu ha 0 H.size) (cwV 1 hts gX10_markTime_X10_holds rfl rfl rfl (by decide +kernel) ⟨Nat.le_of_ble_eq_true rfl, Nat.le_of_ble_eq_true rfl⟩) ⟨zP.blind, va_recv hK.1 hPc (ci := 9) (q0 := 0) rfl rfl, z_pre hK hPc hDc⟩ rfl rfl hl.1 rfl (lv_room (Nat.le_of_ble_eq_true rfl)) dX10_markTime_14 ⟨Nat.le_of_ble_eq_true rfl, Nat.le_of_ble_eq_true rfl⟩) hP hD hS hA [0] [1] rfl rfl (by decide) (by decide) (fun H locs hP hD hS => ?_)
  have hP : va_P E.1 vwCl ([[(k1, .inl (E.2 0, 1160, .inl sv))], [(h0, .inr (9, [.int 0, .ref k1, .int sd, .ref k2, .ref k3, .int ln, .int at0, .int pt, .int mi, .int nu, .long ha]))]] : List va_W).flatten H := hP
  have hD : va_D A ([[(k1, .inl (E.2 0, 1160, .inl sv))], [(h0, .inr (9, [.int 0, .ref k1, .int sd, .ref k2, .ref k3, .int ln, .int at0, .int pt, .int mi, .int nu, .long ha]))]] : List va_W).flatten := hD
  refine W.eq (g2 := F0 Mi 17 ls [.int (m_z01 0)]) rfl ?_
  refine lv_if_eq (tgt := 34) hx hb dX10_markTime_17 (by decide) (fun h9 => absurd h9 ((by decide))) (fun _ => ?_)
  refine lv_aload_n hx hb dX10_markTime_20 rfl (lv_at hl 0 rfl) ?_
  refine va_get (D := E.1) (ci := 9) (v := .ref k1) (C := RX10) (T := TX10) (N := 11) hx hb hts hi_X10 hown hK.1 hP 1 rfl rfl 1 (by decide) (hts (.fieldLink RX10 7 "AltimeterWatchModel" "s" "[I") (by decide +kernel)) (fun _ h9 => h9) rfl dX10_markTime_21 ?_
  refine lv_bipush (v := 76) hx hb dX10_markTime_24 (by decide) ?_
  refine lv_iconst (v := 4) hx hb dX10_markTime_26 (by decide) ?_
  refine lv_iload_n hx hb dX10_markTime_27 rfl (lv_at hl 1 rfl) ?_
  refine lv_imul hx hb dX10_markTime_28 ?_
  refine lv_iadd hx hb dX10_markTime_29 ?_
  refine z_iald (k := (76 + (4 * k))) hx hb hK.1 hP 0 rfl (z_addI rfl (z_mulI rfl hx1)) (by omega) (by decide) dX10_markTime_30 ?_
  refine lv_goto (tgt := 35) hx hb dX10_markTime_31 (by decide) ?_
  have hP : va_P E.1 vwCl ([[(h0, .inr (9, [.int 0, .ref k1, .int sd, .ref k2, .ref k3, .int ln, .int at0, .int pt, .int mi, .int nu, .long ha]))], [(k1, .inl (E.2 0, 1160, .inl sv))]] : List va_W).flatten H := zf_sub hP [1, 0] rfl
  have hD : va_D A ([[(h0, .inr (9, [.int 0, .ref k1, .int sd, .ref k2, .ref k3, .int ln, .int at0, .int pt, .int mi, .int nu, .long ha]))], [(k1, .inl (E.2 0, 1160, .inl sv))]] : List va_W).flatten := zf_subD hD [1, 0] (by decide) rfl
  exact W.iret (v := (sv (76 + (4 * k)))) hx hb hr (z_end hP hD hS rfl) hS.2.2 dX10_markTime_35 hlocks

set_option maxHeartbeats 4000000 in
set_option maxRecDepth 100000 in
theorem c_X10_markAltitude_n (l : Launch) (E : zE) (h0 k1 k2 k3 : Nat) (th sd ln at0 pt mi nu : Int32) (ha : Int64) (sv : Nat → Int32) (x : Int32) (hok : m_in x 0 (sv 75 - 1) = 0) : zM l yX10_markAltitude wsX10_markAltitude ({ frames := 2, cells := 0, slots := 0, locals := 43 }) E [.ref h0, .int x] ([[(h0, .inr (9, [.int th, .ref k1, .int sd, .ref k2, .ref k3, .int ln, .int at0, .int pt, .int mi, .int nu, .long ha]))], [(k1, .inl (E.2 0, 1160, .inl sv))]] : List va_W).flatten (some (.int 0)) ([[(h0, .inr (9, [.int 1, .ref k1, .int sd, .ref k2, .ref k3, .int ln, .int at0, .int pt, .int mi, .int nu, .long ha]))], [(k1, .inl (E.2 0, 1160, .inl sv))]] : List va_W).flatten 0 0 := by
  refine z_start (cc := cX10_markAltitude) (maxL := 2) (ret := (some .int)) (by decide) rfl (Nat.le_of_ble_eq_true rfl) ?_
  intro Pg En s Mi below meth Cd A hx hb hr hts hown hlocks hin hml hA H hH hP hK hD hS ls hl
  have hl : lv_has ls 2 [(0, .ref h0), (1, .int x)] := hl
  refine lv_aload_n hx hb dX10_markAltitude_0 rfl (lv_at hl 0 rfl) ?_
  refine lv_aload_n hx hb dX10_markAltitude_1 rfl (lv_at hl 0 rfl) ?_
  refine lv_iload_n hx hb dX10_markAltitude_2 rfl (lv_at hl 1 rfl) ?_
  have hPc : va_P E.1 vwCl ([[(h0, .inr (9, [.int th, .ref k1, .int sd, .ref k2, .ref k3, .int ln, .int at0, .int pt, .int mi, .int nu, .long ha]))], [(k1, .inl (E.2 0, 1160, .inl sv))]] : List va_W).flatten H := zf_sub hP [0, 1] rfl
  refine z_rdv (va_runV (As := [.int x]) (rest := [.ref h0]) ⟨hx, hb, hml, hown, hts⟩ (c_X10_isMark l E h0 k1 k2 k3 th sd ln at0 pt mi nu ha sv x) (cwV 1 hts gX10_markAltitude_X10_isMark rfl rfl rfl (by decide +kernel) ⟨Nat.le_of_ble_eq_true rfl, Nat.le_of_ble_eq_true rfl⟩) ⟨zPr.blind, va_recv hK.1 hPc (ci := 9) (q0 := 0) rfl rfl, z_prer hK hPc⟩ rfl rfl hl.1 rfl (lv_room (Nat.le_of_ble_eq_true rfl)) dX10_markAltitude_3 ⟨Nat.le_of_ble_eq_true rfl, Nat.le_of_ble_eq_true rfl⟩) ?_
  refine W.eq (g2 := F0 Mi 6 ls [.int (m_in x 0 (sv 75 - 1)), .ref h0]) rfl ?_
  refine lv_if_eq (tgt := 13) hx hb dX10_markAltitude_6 (by decide) (fun _ => ?_) (fun h9 => absurd (hok) h9)
  refine lv_iconst (v := 1) hx hb dX10_markAltitude_13 (by decide) ?_
  have hPc : va_P E.1 vwCl ([[(h0, .inr (9, [.int th, .ref k1, .int sd, .ref k2, .ref k3, .int ln, .int at0, .int pt, .int mi, .int nu, .long ha]))]] : List va_W).flatten H := zf_sub hP [0] rfl
  have hDc : va_D A ([[(h0, .inr (9, [.int th, .ref k1, .int sd, .ref k2, .ref k3, .int ln, .int at0, .int pt, .int mi, .int nu, .long ha]))]] : List va_W).flatten := zf_subD hD [0] (by decide) rfl
  refine z_mut (Sc := [[(h0, .inr (9, [.int th, .ref k1, .int sd, .ref k2, .ref k3, .int ln, .int at0, .int pt, .int mi, .int nu, .long ha]))]]) (Sr := [[(k1, .inl (E.2 0, 1160, .inl sv))]]) (W1 := [[(h0, .inr (9, [.int 1, .ref k1, .int sd, .ref k2, .ref k3, .int ln, .int at0, .int pt, .int mi, .int nu, .long ha]))]]) (va_runV (As := [.int 1]) (rest := []) ⟨hx, hb, hml, hown, hts⟩ (c_X10_holds l E h0 k1 k2 k3 th sd ln at0 pt mi nu ha 1 H.size) (cwV 1 hts gX10_markAltitude_X10_holds rfl rfl rfl (by decide +kernel) ⟨Nat.le_of_ble_eq_true rfl, Nat.le_of_ble_eq_true rfl⟩) ⟨zP.blind, va_recv hK.1 hPc (ci := 9) (q0 := 0) rfl rfl, z_pre hK hPc hDc⟩ rfl rfl hl.1 rfl (lv_room (Nat.le_of_ble_eq_true rfl)) dX10_markAltitude_14 ⟨Nat.le_of_ble_eq_true rfl, Nat.le_of_ble_eq_true rfl⟩) hP hD hS hA [0] [1] rfl rfl (by decide) (by decide) (fun H locs hP hD hS => ?_)
  have hP : va_P E.1 vwCl ([[(k1, .inl (E.2 0, 1160, .inl sv))], [(h0, .inr (9, [.int 1, .ref k1, .int sd, .ref k2, .ref k3, .int ln, .int at0, .int pt, .int mi, .int nu, .long ha]))]] : List va_W).flatten H := hP
  have hD : va_D A ([[(k1, .inl (E.2 0, 1160, .inl sv))], [(h0, .inr (9, [.int 1, .ref k1, .int sd, .ref k2, .ref k3, .int ln, .int at0, .int pt, .int mi, .int nu, .long ha]))]] : List va_W).flatten := hD
  refine W.eq (g2 := F0 Mi 17 ls [.int (m_z01 1)]) rfl ?_
  refine lv_if_eq (tgt := 36) hx hb dX10_markAltitude_17 (by decide) (fun _ => ?_) (fun h9 => absurd ((by decide)) h9)
  refine lv_iconst (v := 0) hx hb dX10_markAltitude_36 (by decide) ?_
  have hP : va_P E.1 vwCl ([[(h0, .inr (9, [.int 1, .ref k1, .int sd, .ref k2, .ref k3, .int ln, .int at0, .int pt, .int mi, .int nu, .long ha]))], [(k1, .inl (E.2 0, 1160, .inl sv))]] : List va_W).flatten H := zf_sub hP [1, 0] rfl
  have hD : va_D A ([[(h0, .inr (9, [.int 1, .ref k1, .int sd, .ref k2, .ref k3, .int ln, .int at0, .int pt, .int mi, .int nu, .long ha]))], [(k1, .inl (E.2 0, 1160, .inl sv))]] : List va_W).flatten := zf_subD hD [1, 0] (by decide) rfl
  exact W.iret (v := 0) hx hb hr (z_end hP hD hS rfl) hS.2.2 dX10_markAltitude_37 hlocks

set_option maxHeartbeats 4000000 in
set_option maxRecDepth 100000 in
theorem c_X10_markAltitude_y (l : Launch) (E : zE) (h0 k1 k2 k3 : Nat) (th sd ln at0 pt mi nu : Int32) (ha : Int64) (sv : Nat → Int32) (x : Int32) (k : Nat) (hx1 : x = nI k) (hk : k < 10) (hok : m_in x 0 (sv 75 - 1) = 1) : zM l yX10_markAltitude wsX10_markAltitude ({ frames := 2, cells := 0, slots := 0, locals := 43 }) E [.ref h0, .int x] ([[(h0, .inr (9, [.int th, .ref k1, .int sd, .ref k2, .ref k3, .int ln, .int at0, .int pt, .int mi, .int nu, .long ha]))], [(k1, .inl (E.2 0, 1160, .inl sv))]] : List va_W).flatten (some (.int (sv ((76 + (4 * k)) + 1)))) ([[(h0, .inr (9, [.int 0, .ref k1, .int sd, .ref k2, .ref k3, .int ln, .int at0, .int pt, .int mi, .int nu, .long ha]))], [(k1, .inl (E.2 0, 1160, .inl sv))]] : List va_W).flatten 0 0 := by
  refine z_start (cc := cX10_markAltitude) (maxL := 2) (ret := (some .int)) (by decide) rfl (Nat.le_of_ble_eq_true rfl) ?_
  intro Pg En s Mi below meth Cd A hx hb hr hts hown hlocks hin hml hA H hH hP hK hD hS ls hl
  have hl : lv_has ls 2 [(0, .ref h0), (1, .int x)] := hl
  have hi_X10 : ∀ w ∈ wsX100, w ∈ wsX10_markAltitude := by decide +kernel
  refine lv_aload_n hx hb dX10_markAltitude_0 rfl (lv_at hl 0 rfl) ?_
  refine lv_aload_n hx hb dX10_markAltitude_1 rfl (lv_at hl 0 rfl) ?_
  refine lv_iload_n hx hb dX10_markAltitude_2 rfl (lv_at hl 1 rfl) ?_
  have hPc : va_P E.1 vwCl ([[(h0, .inr (9, [.int th, .ref k1, .int sd, .ref k2, .ref k3, .int ln, .int at0, .int pt, .int mi, .int nu, .long ha]))], [(k1, .inl (E.2 0, 1160, .inl sv))]] : List va_W).flatten H := zf_sub hP [0, 1] rfl
  refine z_rdv (va_runV (As := [.int x]) (rest := [.ref h0]) ⟨hx, hb, hml, hown, hts⟩ (c_X10_isMark l E h0 k1 k2 k3 th sd ln at0 pt mi nu ha sv x) (cwV 1 hts gX10_markAltitude_X10_isMark rfl rfl rfl (by decide +kernel) ⟨Nat.le_of_ble_eq_true rfl, Nat.le_of_ble_eq_true rfl⟩) ⟨zPr.blind, va_recv hK.1 hPc (ci := 9) (q0 := 0) rfl rfl, z_prer hK hPc⟩ rfl rfl hl.1 rfl (lv_room (Nat.le_of_ble_eq_true rfl)) dX10_markAltitude_3 ⟨Nat.le_of_ble_eq_true rfl, Nat.le_of_ble_eq_true rfl⟩) ?_
  refine W.eq (g2 := F0 Mi 6 ls [.int (m_in x 0 (sv 75 - 1)), .ref h0]) rfl ?_
  refine lv_if_eq (tgt := 13) hx hb dX10_markAltitude_6 (by decide) (fun h9 => absurd h9 ((by rw [hok]; decide))) (fun _ => ?_)
  refine lv_iconst (v := 0) hx hb dX10_markAltitude_9 (by decide) ?_
  refine lv_goto (tgt := 14) hx hb dX10_markAltitude_10 (by decide) ?_
  have hPc : va_P E.1 vwCl ([[(h0, .inr (9, [.int th, .ref k1, .int sd, .ref k2, .ref k3, .int ln, .int at0, .int pt, .int mi, .int nu, .long ha]))]] : List va_W).flatten H := zf_sub hP [0] rfl
  have hDc : va_D A ([[(h0, .inr (9, [.int th, .ref k1, .int sd, .ref k2, .ref k3, .int ln, .int at0, .int pt, .int mi, .int nu, .long ha]))]] : List va_W).flatten := zf_subD hD [0] (by decide) rfl
  refine z_mut (Sc := [[(h0, .inr (9, [.int th, .ref k1, .int sd, .ref k2, .ref k3, .int ln, .int at0, .int pt, .int mi, .int nu, .long ha]))]]) (Sr := [[(k1, .inl (E.2 0, 1160, .inl sv))]]) (W1 := [[(h0, .inr (9, [.int 0, .ref k1, .int sd, .ref k2, .ref k3, .int ln, .int at0, .int pt, .int mi, .int nu, .long ha]))]]) (va_runV (As := [.int 0]) (rest := []) ⟨hx, hb, hml, hown, hts⟩ (c_X10_holds l E h0 k1 k2 k3 th sd ln at0 pt mi nu ha 0 H.size) (cwV 1 hts gX10_markAltitude_X10_holds rfl rfl rfl (by decide +kernel) ⟨Nat.le_of_ble_eq_true rfl, Nat.le_of_ble_eq_true rfl⟩) ⟨zP.blind, va_recv hK.1 hPc (ci := 9) (q0 := 0) rfl rfl, z_pre hK hPc hDc⟩ rfl rfl hl.1 rfl (lv_room (Nat.le_of_ble_eq_true rfl)) dX10_markAltitude_14 ⟨Nat.le_of_ble_eq_true rfl, Nat.le_of_ble_eq_true rfl⟩) hP hD hS hA [0] [1] rfl rfl (by decide) (by decide) (fun H locs hP hD hS => ?_)
  have hP : va_P E.1 vwCl ([[(k1, .inl (E.2 0, 1160, .inl sv))], [(h0, .inr (9, [.int 0, .ref k1, .int sd, .ref k2, .ref k3, .int ln, .int at0, .int pt, .int mi, .int nu, .long ha]))]] : List va_W).flatten H := hP
  have hD : va_D A ([[(k1, .inl (E.2 0, 1160, .inl sv))], [(h0, .inr (9, [.int 0, .ref k1, .int sd, .ref k2, .ref k3, .int ln, .int at0, .int pt, .int mi, .int nu, .long ha]))]] : List va_W).flatten := hD
  refine W.eq (g2 := F0 Mi 17 ls [.int (m_z01 0)]) rfl ?_
  refine lv_if_eq (tgt := 36) hx hb dX10_markAltitude_17 (by decide) (fun h9 => absurd h9 ((by decide))) (fun _ => ?_)
  refine lv_aload_n hx hb dX10_markAltitude_20 rfl (lv_at hl 0 rfl) ?_
  refine va_get (D := E.1) (ci := 9) (v := .ref k1) (C := RX10) (T := TX10) (N := 11) hx hb hts hi_X10 hown hK.1 hP 1 rfl rfl 1 (by decide) (hts (.fieldLink RX10 7 "AltimeterWatchModel" "s" "[I") (by decide +kernel)) (fun _ h9 => h9) rfl dX10_markAltitude_21 ?_
  refine lv_bipush (v := 76) hx hb dX10_markAltitude_24 (by decide) ?_
  refine lv_iconst (v := 4) hx hb dX10_markAltitude_26 (by decide) ?_
  refine lv_iload_n hx hb dX10_markAltitude_27 rfl (lv_at hl 1 rfl) ?_
  refine lv_imul hx hb dX10_markAltitude_28 ?_
  refine lv_iadd hx hb dX10_markAltitude_29 ?_
  refine lv_iconst (v := 1) hx hb dX10_markAltitude_30 (by decide) ?_
  refine lv_iadd hx hb dX10_markAltitude_31 ?_
  refine z_iald (k := ((76 + (4 * k)) + 1)) hx hb hK.1 hP 0 rfl (z_addI (z_addI rfl (z_mulI rfl hx1)) rfl) (by omega) (by decide) dX10_markAltitude_32 ?_
  refine lv_goto (tgt := 37) hx hb dX10_markAltitude_33 (by decide) ?_
  have hP : va_P E.1 vwCl ([[(h0, .inr (9, [.int 0, .ref k1, .int sd, .ref k2, .ref k3, .int ln, .int at0, .int pt, .int mi, .int nu, .long ha]))], [(k1, .inl (E.2 0, 1160, .inl sv))]] : List va_W).flatten H := zf_sub hP [1, 0] rfl
  have hD : va_D A ([[(h0, .inr (9, [.int 0, .ref k1, .int sd, .ref k2, .ref k3, .int ln, .int at0, .int pt, .int mi, .int nu, .long ha]))], [(k1, .inl (E.2 0, 1160, .inl sv))]] : List va_W).flatten := zf_subD hD [1, 0] (by decide) rfl
  exact W.iret (v := (sv ((76 + (4 * k)) + 1))) hx hb hr (z_end hP hD hS rfl) hS.2.2 dX10_markAltitude_37 hlocks

set_option maxHeartbeats 4000000 in
set_option maxRecDepth 100000 in
theorem c_X10_climbed_n1 (l : Launch) (E : zE) (h0 k1 k2 k3 : Nat) (th sd ln at0 pt mi nu : Int32) (ha : Int64) (sv : Nat → Int32) (x y : Int32) (hok : m_in x 0 (sv 75 - 1) = 0) : zM l yX10_climbed wsX10_climbed ({ frames := 2, cells := 0, slots := 0, locals := 43 }) E [.ref h0, .int x, .int y] ([[(h0, .inr (9, [.int th, .ref k1, .int sd, .ref k2, .ref k3, .int ln, .int at0, .int pt, .int mi, .int nu, .long ha]))], [(k1, .inl (E.2 0, 1160, .inl sv))]] : List va_W).flatten (some (.int 0)) ([[(h0, .inr (9, [.int 1, .ref k1, .int sd, .ref k2, .ref k3, .int ln, .int at0, .int pt, .int mi, .int nu, .long ha]))], [(k1, .inl (E.2 0, 1160, .inl sv))]] : List va_W).flatten 0 0 := by
  refine z_start (cc := cX10_climbed) (maxL := 3) (ret := (some .int)) (by decide) rfl (Nat.le_of_ble_eq_true rfl) ?_
  intro Pg En s Mi below meth Cd A hx hb hr hts hown hlocks hin hml hA H hH hP hK hD hS ls hl
  have hl : lv_has ls 3 [(0, .ref h0), (1, .int x), (2, .int y)] := hl
  refine lv_aload_n hx hb dX10_climbed_0 rfl (lv_at hl 0 rfl) ?_
  refine lv_aload_n hx hb dX10_climbed_1 rfl (lv_at hl 0 rfl) ?_
  refine lv_iload_n hx hb dX10_climbed_2 rfl (lv_at hl 1 rfl) ?_
  have hPc : va_P E.1 vwCl ([[(h0, .inr (9, [.int th, .ref k1, .int sd, .ref k2, .ref k3, .int ln, .int at0, .int pt, .int mi, .int nu, .long ha]))], [(k1, .inl (E.2 0, 1160, .inl sv))]] : List va_W).flatten H := zf_sub hP [0, 1] rfl
  refine z_rdv (va_runV (As := [.int x]) (rest := [.ref h0]) ⟨hx, hb, hml, hown, hts⟩ (c_X10_isMark l E h0 k1 k2 k3 th sd ln at0 pt mi nu ha sv x) (cwV 1 hts gX10_climbed_X10_isMark rfl rfl rfl (by decide +kernel) ⟨Nat.le_of_ble_eq_true rfl, Nat.le_of_ble_eq_true rfl⟩) ⟨zPr.blind, va_recv hK.1 hPc (ci := 9) (q0 := 0) rfl rfl, z_prer hK hPc⟩ rfl rfl hl.1 rfl (lv_room (Nat.le_of_ble_eq_true rfl)) dX10_climbed_3 ⟨Nat.le_of_ble_eq_true rfl, Nat.le_of_ble_eq_true rfl⟩) ?_
  refine W.eq (g2 := F0 Mi 6 ls [.int (m_in x 0 (sv 75 - 1)), .ref h0]) rfl ?_
  refine lv_if_eq (tgt := 21) hx hb dX10_climbed_6 (by decide) (fun _ => ?_) (fun h9 => absurd (hok) h9)
  refine lv_iconst (v := 1) hx hb dX10_climbed_21 (by decide) ?_
  have hPc : va_P E.1 vwCl ([[(h0, .inr (9, [.int th, .ref k1, .int sd, .ref k2, .ref k3, .int ln, .int at0, .int pt, .int mi, .int nu, .long ha]))]] : List va_W).flatten H := zf_sub hP [0] rfl
  have hDc : va_D A ([[(h0, .inr (9, [.int th, .ref k1, .int sd, .ref k2, .ref k3, .int ln, .int at0, .int pt, .int mi, .int nu, .long ha]))]] : List va_W).flatten := zf_subD hD [0] (by decide) rfl
  refine z_mut (Sc := [[(h0, .inr (9, [.int th, .ref k1, .int sd, .ref k2, .ref k3, .int ln, .int at0, .int pt, .int mi, .int nu, .long ha]))]]) (Sr := [[(k1, .inl (E.2 0, 1160, .inl sv))]]) (W1 := [[(h0, .inr (9, [.int 1, .ref k1, .int sd, .ref k2, .ref k3, .int ln, .int at0, .int pt, .int mi, .int nu, .long ha]))]]) (va_runV (As := [.int 1]) (rest := []) ⟨hx, hb, hml, hown, hts⟩ (c_X10_holds l E h0 k1 k2 k3 th sd ln at0 pt mi nu ha 1 H.size) (cwV 1 hts gX10_climbed_X10_holds rfl rfl rfl (by decide +kernel) ⟨Nat.le_of_ble_eq_true rfl, Nat.le_of_ble_eq_true rfl⟩) ⟨zP.blind, va_recv hK.1 hPc (ci := 9) (q0 := 0) rfl rfl, z_pre hK hPc hDc⟩ rfl rfl hl.1 rfl (lv_room (Nat.le_of_ble_eq_true rfl)) dX10_climbed_22 ⟨Nat.le_of_ble_eq_true rfl, Nat.le_of_ble_eq_true rfl⟩) hP hD hS hA [0] [1] rfl rfl (by decide) (by decide) (fun H locs hP hD hS => ?_)
  have hP : va_P E.1 vwCl ([[(k1, .inl (E.2 0, 1160, .inl sv))], [(h0, .inr (9, [.int 1, .ref k1, .int sd, .ref k2, .ref k3, .int ln, .int at0, .int pt, .int mi, .int nu, .long ha]))]] : List va_W).flatten H := hP
  have hD : va_D A ([[(k1, .inl (E.2 0, 1160, .inl sv))], [(h0, .inr (9, [.int 1, .ref k1, .int sd, .ref k2, .ref k3, .int ln, .int at0, .int pt, .int mi, .int nu, .long ha]))]] : List va_W).flatten := hD
  refine W.eq (g2 := F0 Mi 25 ls [.int (m_z01 1)]) rfl ?_
  refine lv_if_eq (tgt := 58) hx hb dX10_climbed_25 (by decide) (fun _ => ?_) (fun h9 => absurd ((by decide)) h9)
  refine lv_iconst (v := 0) hx hb dX10_climbed_58 (by decide) ?_
  have hP : va_P E.1 vwCl ([[(h0, .inr (9, [.int 1, .ref k1, .int sd, .ref k2, .ref k3, .int ln, .int at0, .int pt, .int mi, .int nu, .long ha]))], [(k1, .inl (E.2 0, 1160, .inl sv))]] : List va_W).flatten H := zf_sub hP [1, 0] rfl
  have hD : va_D A ([[(h0, .inr (9, [.int 1, .ref k1, .int sd, .ref k2, .ref k3, .int ln, .int at0, .int pt, .int mi, .int nu, .long ha]))], [(k1, .inl (E.2 0, 1160, .inl sv))]] : List va_W).flatten := zf_subD hD [1, 0] (by decide) rfl
  exact W.iret (v := 0) hx hb hr (z_end hP hD hS rfl) hS.2.2 dX10_climbed_59 hlocks

set_option maxHeartbeats 4000000 in
set_option maxRecDepth 100000 in
theorem c_X10_climbed_n2 (l : Launch) (E : zE) (h0 k1 k2 k3 : Nat) (th sd ln at0 pt mi nu : Int32) (ha : Int64) (sv : Nat → Int32) (x y : Int32) (hoy : m_in x 0 (sv 75 - 1) = 1) (hok : m_in y 0 (sv 75 - 1) = 0) : zM l yX10_climbed wsX10_climbed ({ frames := 2, cells := 0, slots := 0, locals := 43 }) E [.ref h0, .int x, .int y] ([[(h0, .inr (9, [.int th, .ref k1, .int sd, .ref k2, .ref k3, .int ln, .int at0, .int pt, .int mi, .int nu, .long ha]))], [(k1, .inl (E.2 0, 1160, .inl sv))]] : List va_W).flatten (some (.int 0)) ([[(h0, .inr (9, [.int 1, .ref k1, .int sd, .ref k2, .ref k3, .int ln, .int at0, .int pt, .int mi, .int nu, .long ha]))], [(k1, .inl (E.2 0, 1160, .inl sv))]] : List va_W).flatten 0 0 := by
  refine z_start (cc := cX10_climbed) (maxL := 3) (ret := (some .int)) (by decide) rfl (Nat.le_of_ble_eq_true rfl) ?_
  intro Pg En s Mi below meth Cd A hx hb hr hts hown hlocks hin hml hA H hH hP hK hD hS ls hl
  have hl : lv_has ls 3 [(0, .ref h0), (1, .int x), (2, .int y)] := hl
  refine lv_aload_n hx hb dX10_climbed_0 rfl (lv_at hl 0 rfl) ?_
  refine lv_aload_n hx hb dX10_climbed_1 rfl (lv_at hl 0 rfl) ?_
  refine lv_iload_n hx hb dX10_climbed_2 rfl (lv_at hl 1 rfl) ?_
  have hPc : va_P E.1 vwCl ([[(h0, .inr (9, [.int th, .ref k1, .int sd, .ref k2, .ref k3, .int ln, .int at0, .int pt, .int mi, .int nu, .long ha]))], [(k1, .inl (E.2 0, 1160, .inl sv))]] : List va_W).flatten H := zf_sub hP [0, 1] rfl
  refine z_rdv (va_runV (As := [.int x]) (rest := [.ref h0]) ⟨hx, hb, hml, hown, hts⟩ (c_X10_isMark l E h0 k1 k2 k3 th sd ln at0 pt mi nu ha sv x) (cwV 1 hts gX10_climbed_X10_isMark rfl rfl rfl (by decide +kernel) ⟨Nat.le_of_ble_eq_true rfl, Nat.le_of_ble_eq_true rfl⟩) ⟨zPr.blind, va_recv hK.1 hPc (ci := 9) (q0 := 0) rfl rfl, z_prer hK hPc⟩ rfl rfl hl.1 rfl (lv_room (Nat.le_of_ble_eq_true rfl)) dX10_climbed_3 ⟨Nat.le_of_ble_eq_true rfl, Nat.le_of_ble_eq_true rfl⟩) ?_
  refine W.eq (g2 := F0 Mi 6 ls [.int (m_in x 0 (sv 75 - 1)), .ref h0]) rfl ?_
  refine lv_if_eq (tgt := 21) hx hb dX10_climbed_6 (by decide) (fun h9 => absurd h9 ((by rw [hoy]; decide))) (fun _ => ?_)
  refine lv_aload_n hx hb dX10_climbed_9 rfl (lv_at hl 0 rfl) ?_
  refine lv_iload_n hx hb dX10_climbed_10 rfl (lv_at hl 2 rfl) ?_
  have hPc : va_P E.1 vwCl ([[(h0, .inr (9, [.int th, .ref k1, .int sd, .ref k2, .ref k3, .int ln, .int at0, .int pt, .int mi, .int nu, .long ha]))], [(k1, .inl (E.2 0, 1160, .inl sv))]] : List va_W).flatten H := zf_sub hP [0, 1] rfl
  refine z_rdv (va_runV (As := [.int y]) (rest := [.ref h0]) ⟨hx, hb, hml, hown, hts⟩ (c_X10_isMark l E h0 k1 k2 k3 th sd ln at0 pt mi nu ha sv y) (cwV 1 hts gX10_climbed_X10_isMark rfl rfl rfl (by decide +kernel) ⟨Nat.le_of_ble_eq_true rfl, Nat.le_of_ble_eq_true rfl⟩) ⟨zPr.blind, va_recv hK.1 hPc (ci := 9) (q0 := 0) rfl rfl, z_prer hK hPc⟩ rfl rfl hl.1 rfl (lv_room (Nat.le_of_ble_eq_true rfl)) dX10_climbed_11 ⟨Nat.le_of_ble_eq_true rfl, Nat.le_of_ble_eq_true rfl⟩) ?_
  refine W.eq (g2 := F0 Mi 14 ls [.int (m_in y 0 (sv 75 - 1)), .ref h0]) rfl ?_
  refine lv_if_eq (tgt := 21) hx hb dX10_climbed_14 (by decide) (fun _ => ?_) (fun h9 => absurd (hok) h9)
  refine lv_iconst (v := 1) hx hb dX10_climbed_21 (by decide) ?_
  have hPc : va_P E.1 vwCl ([[(h0, .inr (9, [.int th, .ref k1, .int sd, .ref k2, .ref k3, .int ln, .int at0, .int pt, .int mi, .int nu, .long ha]))]] : List va_W).flatten H := zf_sub hP [0] rfl
  have hDc : va_D A ([[(h0, .inr (9, [.int th, .ref k1, .int sd, .ref k2, .ref k3, .int ln, .int at0, .int pt, .int mi, .int nu, .long ha]))]] : List va_W).flatten := zf_subD hD [0] (by decide) rfl
  refine z_mut (Sc := [[(h0, .inr (9, [.int th, .ref k1, .int sd, .ref k2, .ref k3, .int ln, .int at0, .int pt, .int mi, .int nu, .long ha]))]]) (Sr := [[(k1, .inl (E.2 0, 1160, .inl sv))]]) (W1 := [[(h0, .inr (9, [.int 1, .ref k1, .int sd, .ref k2, .ref k3, .int ln, .int at0, .int pt, .int mi, .int nu, .long ha]))]]) (va_runV (As := [.int 1]) (rest := []) ⟨hx, hb, hml, hown, hts⟩ (c_X10_holds l E h0 k1 k2 k3 th sd ln at0 pt mi nu ha 1 H.size) (cwV 1 hts gX10_climbed_X10_holds rfl rfl rfl (by decide +kernel) ⟨Nat.le_of_ble_eq_true rfl, Nat.le_of_ble_eq_true rfl⟩) ⟨zP.blind, va_recv hK.1 hPc (ci := 9) (q0 := 0) rfl rfl, z_pre hK hPc hDc⟩ rfl rfl hl.1 rfl (lv_room (Nat.le_of_ble_eq_true rfl)) dX10_climbed_22 ⟨Nat.le_of_ble_eq_true rfl, Nat.le_of_ble_eq_true rfl⟩) hP hD hS hA [0] [1] rfl rfl (by decide) (by decide) (fun H locs hP hD hS => ?_)
  have hP : va_P E.1 vwCl ([[(k1, .inl (E.2 0, 1160, .inl sv))], [(h0, .inr (9, [.int 1, .ref k1, .int sd, .ref k2, .ref k3, .int ln, .int at0, .int pt, .int mi, .int nu, .long ha]))]] : List va_W).flatten H := hP
  have hD : va_D A ([[(k1, .inl (E.2 0, 1160, .inl sv))], [(h0, .inr (9, [.int 1, .ref k1, .int sd, .ref k2, .ref k3, .int ln, .int at0, .int pt, .int mi, .int nu, .long ha]))]] : List va_W).flatten := hD
  refine W.eq (g2 := F0 Mi 25 ls [.int (m_z01 1)]) rfl ?_
  refine lv_if_eq (tgt := 58) hx hb dX10_climbed_25 (by decide) (fun _ => ?_) (fun h9 => absurd ((by decide)) h9)
  refine lv_iconst (v := 0) hx hb dX10_climbed_58 (by decide) ?_
  have hP : va_P E.1 vwCl ([[(h0, .inr (9, [.int 1, .ref k1, .int sd, .ref k2, .ref k3, .int ln, .int at0, .int pt, .int mi, .int nu, .long ha]))], [(k1, .inl (E.2 0, 1160, .inl sv))]] : List va_W).flatten H := zf_sub hP [1, 0] rfl
  have hD : va_D A ([[(h0, .inr (9, [.int 1, .ref k1, .int sd, .ref k2, .ref k3, .int ln, .int at0, .int pt, .int mi, .int nu, .long ha]))], [(k1, .inl (E.2 0, 1160, .inl sv))]] : List va_W).flatten := zf_subD hD [1, 0] (by decide) rfl
  exact W.iret (v := 0) hx hb hr (z_end hP hD hS rfl) hS.2.2 dX10_climbed_59 hlocks

set_option maxHeartbeats 4000000 in
set_option maxRecDepth 100000 in
theorem c_X10_climbed_y (l : Launch) (E : zE) (h0 k1 k2 k3 : Nat) (th sd ln at0 pt mi nu : Int32) (ha : Int64) (sv : Nat → Int32) (x y : Int32) (hoy : m_in x 0 (sv 75 - 1) = 1) (hok : m_in y 0 (sv 75 - 1) = 1) (k : Nat) (hx1 : x = nI k) (hk : k < 10) (j : Nat) (hy1 : y = nI j) (hj : j < 10) : zM l yX10_climbed wsX10_climbed ({ frames := 2, cells := 0, slots := 0, locals := 43 }) E [.ref h0, .int x, .int y] ([[(h0, .inr (9, [.int th, .ref k1, .int sd, .ref k2, .ref k3, .int ln, .int at0, .int pt, .int mi, .int nu, .long ha]))], [(k1, .inl (E.2 0, 1160, .inl sv))]] : List va_W).flatten (some (.int (sv ((76 + (4 * j)) + 2) - sv ((76 + (4 * k)) + 2)))) ([[(h0, .inr (9, [.int 0, .ref k1, .int sd, .ref k2, .ref k3, .int ln, .int at0, .int pt, .int mi, .int nu, .long ha]))], [(k1, .inl (E.2 0, 1160, .inl sv))]] : List va_W).flatten 0 0 := by
  refine z_start (cc := cX10_climbed) (maxL := 3) (ret := (some .int)) (by decide) rfl (Nat.le_of_ble_eq_true rfl) ?_
  intro Pg En s Mi below meth Cd A hx hb hr hts hown hlocks hin hml hA H hH hP hK hD hS ls hl
  have hl : lv_has ls 3 [(0, .ref h0), (1, .int x), (2, .int y)] := hl
  have hi_X10 : ∀ w ∈ wsX100, w ∈ wsX10_climbed := by decide +kernel
  refine lv_aload_n hx hb dX10_climbed_0 rfl (lv_at hl 0 rfl) ?_
  refine lv_aload_n hx hb dX10_climbed_1 rfl (lv_at hl 0 rfl) ?_
  refine lv_iload_n hx hb dX10_climbed_2 rfl (lv_at hl 1 rfl) ?_
  have hPc : va_P E.1 vwCl ([[(h0, .inr (9, [.int th, .ref k1, .int sd, .ref k2, .ref k3, .int ln, .int at0, .int pt, .int mi, .int nu, .long ha]))], [(k1, .inl (E.2 0, 1160, .inl sv))]] : List va_W).flatten H := zf_sub hP [0, 1] rfl
  refine z_rdv (va_runV (As := [.int x]) (rest := [.ref h0]) ⟨hx, hb, hml, hown, hts⟩ (c_X10_isMark l E h0 k1 k2 k3 th sd ln at0 pt mi nu ha sv x) (cwV 1 hts gX10_climbed_X10_isMark rfl rfl rfl (by decide +kernel) ⟨Nat.le_of_ble_eq_true rfl, Nat.le_of_ble_eq_true rfl⟩) ⟨zPr.blind, va_recv hK.1 hPc (ci := 9) (q0 := 0) rfl rfl, z_prer hK hPc⟩ rfl rfl hl.1 rfl (lv_room (Nat.le_of_ble_eq_true rfl)) dX10_climbed_3 ⟨Nat.le_of_ble_eq_true rfl, Nat.le_of_ble_eq_true rfl⟩) ?_
  refine W.eq (g2 := F0 Mi 6 ls [.int (m_in x 0 (sv 75 - 1)), .ref h0]) rfl ?_
  refine lv_if_eq (tgt := 21) hx hb dX10_climbed_6 (by decide) (fun h9 => absurd h9 ((by rw [hoy]; decide))) (fun _ => ?_)
  refine lv_aload_n hx hb dX10_climbed_9 rfl (lv_at hl 0 rfl) ?_
  refine lv_iload_n hx hb dX10_climbed_10 rfl (lv_at hl 2 rfl) ?_
  have hPc : va_P E.1 vwCl ([[(h0, .inr (9, [.int th, .ref k1, .int sd, .ref k2, .ref k3, .int ln, .int at0, .int pt, .int mi, .int nu, .long ha]))], [(k1, .inl (E.2 0, 1160, .inl sv))]] : List va_W).flatten H := zf_sub hP [0, 1] rfl
  refine z_rdv (va_runV (As := [.int y]) (rest := [.ref h0]) ⟨hx, hb, hml, hown, hts⟩ (c_X10_isMark l E h0 k1 k2 k3 th sd ln at0 pt mi nu ha sv y) (cwV 1 hts gX10_climbed_X10_isMark rfl rfl rfl (by decide +kernel) ⟨Nat.le_of_ble_eq_true rfl, Nat.le_of_ble_eq_true rfl⟩) ⟨zPr.blind, va_recv hK.1 hPc (ci := 9) (q0 := 0) rfl rfl, z_prer hK hPc⟩ rfl rfl hl.1 rfl (lv_room (Nat.le_of_ble_eq_true rfl)) dX10_climbed_11 ⟨Nat.le_of_ble_eq_true rfl, Nat.le_of_ble_eq_true rfl⟩) ?_
  refine W.eq (g2 := F0 Mi 14 ls [.int (m_in y 0 (sv 75 - 1)), .ref h0]) rfl ?_
  refine lv_if_eq (tgt := 21) hx hb dX10_climbed_14 (by decide) (fun h9 => absurd h9 ((by rw [hok]; decide))) (fun _ => ?_)
  refine lv_iconst (v := 0) hx hb dX10_climbed_17 (by decide) ?_
  refine lv_goto (tgt := 22) hx hb dX10_climbed_18 (by decide) ?_
  have hPc : va_P E.1 vwCl ([[(h0, .inr (9, [.int th, .ref k1, .int sd, .ref k2, .ref k3, .int ln, .int at0, .int pt, .int mi, .int nu, .long ha]))]] : List va_W).flatten H := zf_sub hP [0] rfl
  have hDc : va_D A ([[(h0, .inr (9, [.int th, .ref k1, .int sd, .ref k2, .ref k3, .int ln, .int at0, .int pt, .int mi, .int nu, .long ha]))]] : List va_W).flatten := zf_subD hD [0] (by decide) rfl
  refine z_mut (Sc := [[(h0, .inr (9, [.int th, .ref k1, .int sd, .ref k2, .ref k3, .int ln, .int at0, .int pt, .int mi, .int nu, .long ha]))]]) (Sr := [[(k1, .inl (E.2 0, 1160, .inl sv))]]) (W1 := [[(h0, .inr (9, [.int 0, .ref k1, .int sd, .ref k2, .ref k3, .int ln, .int at0, .int pt, .int mi, .int nu, .long ha]))]]) (va_runV (As := [.int 0]) (rest := []) ⟨hx, hb, hml, hown, hts⟩ (c_X10_holds l E h0 k1 k2 k3 th sd ln at0 pt mi nu ha 0 H.size) (cwV 1 hts gX10_climbed_X10_holds rfl rfl rfl (by decide +kernel) ⟨Nat.le_of_ble_eq_true rfl, Nat.le_of_ble_eq_true rfl⟩) ⟨zP.blind, va_recv hK.1 hPc (ci := 9) (q0 := 0) rfl rfl, z_pre hK hPc hDc⟩ rfl rfl hl.1 rfl (lv_room (Nat.le_of_ble_eq_true rfl)) dX10_climbed_22 ⟨Nat.le_of_ble_eq_true rfl, Nat.le_of_ble_eq_true rfl⟩) hP hD hS hA [0] [1] rfl rfl (by decide) (by decide) (fun H locs hP hD hS => ?_)
  have hP : va_P E.1 vwCl ([[(k1, .inl (E.2 0, 1160, .inl sv))], [(h0, .inr (9, [.int 0, .ref k1, .int sd, .ref k2, .ref k3, .int ln, .int at0, .int pt, .int mi, .int nu, .long ha]))]] : List va_W).flatten H := hP
  have hD : va_D A ([[(k1, .inl (E.2 0, 1160, .inl sv))], [(h0, .inr (9, [.int 0, .ref k1, .int sd, .ref k2, .ref k3, .int ln, .int at0, .int pt, .int mi, .int nu, .long ha]))]] : List va_W).flatten := hD
  refine W.eq (g2 := F0 Mi 25 ls [.int (m_z01 0)]) rfl ?_
  refine lv_if_eq (tgt := 58) hx hb dX10_climbed_25 (by decide) (fun h9 => absurd h9 ((by decide))) (fun _ => ?_)
  refine lv_aload_n hx hb dX10_climbed_28 rfl (lv_at hl 0 rfl) ?_
  refine va_get (D := E.1) (ci := 9) (v := .ref k1) (C := RX10) (T := TX10) (N := 11) hx hb hts hi_X10 hown hK.1 hP 1 rfl rfl 1 (by decide) (hts (.fieldLink RX10 7 "AltimeterWatchModel" "s" "[I") (by decide +kernel)) (fun _ h9 => h9) rfl dX10_climbed_29 ?_
  refine lv_bipush (v := 76) hx hb dX10_climbed_32 (by decide) ?_
  refine lv_iconst (v := 4) hx hb dX10_climbed_34 (by decide) ?_
  refine lv_iload_n hx hb dX10_climbed_35 rfl (lv_at hl 2 rfl) ?_
  refine lv_imul hx hb dX10_climbed_36 ?_
  refine lv_iadd hx hb dX10_climbed_37 ?_
  refine lv_iconst (v := 2) hx hb dX10_climbed_38 (by decide) ?_
  refine lv_iadd hx hb dX10_climbed_39 ?_
  refine z_iald (k := ((76 + (4 * j)) + 2)) hx hb hK.1 hP 0 rfl (z_addI (z_addI rfl (z_mulI rfl hy1)) rfl) (by omega) (by decide) dX10_climbed_40 ?_
  refine lv_aload_n hx hb dX10_climbed_41 rfl (lv_at hl 0 rfl) ?_
  refine va_get (D := E.1) (ci := 9) (v := .ref k1) (C := RX10) (T := TX10) (N := 11) hx hb hts hi_X10 hown hK.1 hP 1 rfl rfl 1 (by decide) (hts (.fieldLink RX10 7 "AltimeterWatchModel" "s" "[I") (by decide +kernel)) (fun _ h9 => h9) rfl dX10_climbed_42 ?_
  refine lv_bipush (v := 76) hx hb dX10_climbed_45 (by decide) ?_
  refine lv_iconst (v := 4) hx hb dX10_climbed_47 (by decide) ?_
  refine lv_iload_n hx hb dX10_climbed_48 rfl (lv_at hl 1 rfl) ?_
  refine lv_imul hx hb dX10_climbed_49 ?_
  refine lv_iadd hx hb dX10_climbed_50 ?_
  refine lv_iconst (v := 2) hx hb dX10_climbed_51 (by decide) ?_
  refine lv_iadd hx hb dX10_climbed_52 ?_
  refine z_iald (k := ((76 + (4 * k)) + 2)) hx hb hK.1 hP 0 rfl (z_addI (z_addI rfl (z_mulI rfl hx1)) rfl) (by omega) (by decide) dX10_climbed_53 ?_
  refine lv_isub hx hb dX10_climbed_54 ?_
  refine lv_goto (tgt := 59) hx hb dX10_climbed_55 (by decide) ?_
  have hP : va_P E.1 vwCl ([[(h0, .inr (9, [.int 0, .ref k1, .int sd, .ref k2, .ref k3, .int ln, .int at0, .int pt, .int mi, .int nu, .long ha]))], [(k1, .inl (E.2 0, 1160, .inl sv))]] : List va_W).flatten H := zf_sub hP [1, 0] rfl
  have hD : va_D A ([[(h0, .inr (9, [.int 0, .ref k1, .int sd, .ref k2, .ref k3, .int ln, .int at0, .int pt, .int mi, .int nu, .long ha]))], [(k1, .inl (E.2 0, 1160, .inl sv))]] : List va_W).flatten := zf_subD hD [1, 0] (by decide) rfl
  exact W.iret (v := ((sv ((76 + (4 * j)) + 2)) - (sv ((76 + (4 * k)) + 2)))) hx hb hr (z_end hP hD hS rfl) hS.2.2 dX10_climbed_59 hlocks

set_option maxHeartbeats 4000000 in
set_option maxRecDepth 100000 in
theorem c_X10_setStation (l : Launch) (E : zE) (h0 k1 k2 k3 : Nat) (th sd ln at0 pt mi nu : Int32) (ha : Int64) (sv : Nat → Int32) (d : Nat) (hsd : sd = nI d) (hd : d ≤ 6) (on : Int32) (hon : on = 0 ∨ on = 1) (h2 : sv 2 = 0 ∨ sv 2 = 1) : zM l yX10_setStation wsX10_setStation ({ frames := 3, cells := 0, slots := 0, locals := 63 }) E [.ref h0, .int on] ([[(h0, .inr (9, [.int th, .ref k1, .int sd, .ref k2, .ref k3, .int ln, .int at0, .int pt, .int mi, .int nu, .long ha]))], [(k1, .inl (E.2 0, 1160, .inl sv))]] : List va_W).flatten (some (.int (sv 2))) ([[(h0, .inr (9, [.int 0, .ref k1, .int (nI (m_svC d)), .ref k2, .ref k3, .int ln, .int at0, .int pt, .int mi, .int nu, .long ha]))], [(k1, .inl (E.2 0, 1160, .inl (if sv 2 = on then m_svA sv d else m_swA (m_svA sv d) on)))]] : List va_W).flatten 0 0 := by
  refine z_start (cc := cX10_setStation) (maxL := 3) (ret := (some .boolean)) (by decide) rfl (Nat.le_of_ble_eq_true rfl) ?_
  intro Pg En s Mi below meth Cd A hx hb hr hts hown hlocks hin hml hA H hH hP hK hD hS ls hl
  have hl : lv_has ls 3 [(0, .ref h0), (1, .int on)] := hl
  have hi_X10 : ∀ w ∈ wsX100, w ∈ wsX10_setStation := by decide +kernel
  refine lv_aload_n hx hb dX10_setStation_0 rfl (lv_at hl 0 rfl) ?_
  refine lv_iconst (v := 0) hx hb dX10_setStation_1 (by decide) ?_
  refine va_put (D := E.1) (ci := 9) (v := .int 0) (ty := .int) (C := RX10) (T := TX10) (N := 11) hx hb hts hi_X10 tyX10 tyX10_ok nmX10 hown hK.1 hP hD hS 0 rfl rfl 0 (by decide) (hts (.fieldLink RX10 20 "AltimeterWatchModel" "thrown" "I") (by decide +kernel)) (fun _ h9 => h9) rfl (by decide +kernel) rfl rfl (Nat.le_of_ble_eq_true rfl) dX10_setStation_2 (fun H locs hP hD hS => ?_)
  have hP : va_P E.1 vwCl ([[(h0, .inr (9, [.int 0, .ref k1, .int sd, .ref k2, .ref k3, .int ln, .int at0, .int pt, .int mi, .int nu, .long ha]))], [(k1, .inl (E.2 0, 1160, .inl sv))]] : List va_W).flatten H := hP
  have hD : va_D A ([[(h0, .inr (9, [.int 0, .ref k1, .int sd, .ref k2, .ref k3, .int ln, .int at0, .int pt, .int mi, .int nu, .long ha]))], [(k1, .inl (E.2 0, 1160, .inl sv))]] : List va_W).flatten := hD
  refine lv_aload_n hx hb dX10_setStation_5 rfl (lv_at hl 0 rfl) ?_
  have hPc : va_P E.1 vwCl ([[(h0, .inr (9, [.int 0, .ref k1, .int sd, .ref k2, .ref k3, .int ln, .int at0, .int pt, .int mi, .int nu, .long ha]))], [(k1, .inl (E.2 0, 1160, .inl sv))]] : List va_W).flatten H := zf_sub hP [0, 1] rfl
  have hDc : va_D A ([[(h0, .inr (9, [.int 0, .ref k1, .int sd, .ref k2, .ref k3, .int ln, .int at0, .int pt, .int mi, .int nu, .long ha]))], [(k1, .inl (E.2 0, 1160, .inl sv))]] : List va_W).flatten := zf_subD hD [0, 1] (by decide) rfl
  refine z_mut (Sc := [[(h0, .inr (9, [.int 0, .ref k1, .int sd, .ref k2, .ref k3, .int ln, .int at0, .int pt, .int mi, .int nu, .long ha]))], [(k1, .inl (E.2 0, 1160, .inl sv))]]) (Sr := []) (W1 := [[(h0, .inr (9, [.int 0, .ref k1, .int (nI (m_svC d)), .ref k2, .ref k3, .int ln, .int at0, .int pt, .int mi, .int nu, .long ha]))], [(k1, .inl (E.2 0, 1160, .inl (m_svA sv d)))]]) (va_runV (As := []) (rest := []) ⟨hx, hb, hml, hown, hts⟩ (c_X10_save l E h0 k1 k2 k3 0 sd ln at0 pt mi nu ha sv d hsd hd H.size) (cwV 0 hts gX10_setStation_X10_save rfl rfl rfl (by decide +kernel) ⟨Nat.le_of_ble_eq_true rfl, Nat.le_of_ble_eq_true rfl⟩) ⟨zP.blind, va_recv hK.1 hPc (ci := 9) (q0 := 0) rfl rfl, z_pre hK hPc hDc⟩ rfl rfl hl.1 rfl (lv_room (Nat.le_of_ble_eq_true rfl)) dX10_setStation_6 ⟨Nat.le_of_ble_eq_true rfl, Nat.le_of_ble_eq_true rfl⟩) hP hD hS hA [0, 1] [] rfl rfl (by decide) (by decide) (fun H locs hP hD hS => ?_)
  have hP : va_P E.1 vwCl ([[(h0, .inr (9, [.int 0, .ref k1, .int (nI (m_svC d)), .ref k2, .ref k3, .int ln, .int at0, .int pt, .int mi, .int nu, .long ha]))], [(k1, .inl (E.2 0, 1160, .inl (m_svA sv d)))]] : List va_W).flatten H := hP
  have hD : va_D A ([[(h0, .inr (9, [.int 0, .ref k1, .int (nI (m_svC d)), .ref k2, .ref k3, .int ln, .int at0, .int pt, .int mi, .int nu, .long ha]))], [(k1, .inl (E.2 0, 1160, .inl (m_svA sv d)))]] : List va_W).flatten := hD
  refine W.eq (g2 := F0 Mi 9 ls []) rfl ?_
  refine lv_aload_n hx hb dX10_setStation_9 rfl (lv_at hl 0 rfl) ?_
  refine va_get (D := E.1) (ci := 9) (v := .ref k1) (C := RX10) (T := TX10) (N := 11) hx hb hts hi_X10 hown hK.1 hP 0 rfl rfl 1 (by decide) (hts (.fieldLink RX10 7 "AltimeterWatchModel" "s" "[I") (by decide +kernel)) (fun _ h9 => h9) rfl dX10_setStation_10 ?_
  refine lv_iconst (v := 2) hx hb dX10_setStation_13 (by decide) ?_
  refine z_iald (k := 2) hx hb hK.1 hP 1 rfl rfl (by decide) (by decide) dX10_setStation_14 ?_
  refine z_topi (y := (sv 2)) (m_svA_lo (by decide)) ?_
  refine lv_iconst (v := 1) hx hb dX10_setStation_15 (by decide) ?_
  refine lv_icmp_ne (tgt := 23) hx hb dX10_setStation_16 (by decide) (fun c_16 => ?_) (fun c_16 => ?_)
  · refine lv_iconst (v := 0) hx hb dX10_setStation_23 (by decide) ?_
    refine z_topi (y := (sv 2)) (h2.resolve_right c_16).symm ?_
    refine lv_istore_n (lv' := [(2, .int (sv 2)), (0, .ref h0), (1, .int on)]) hx hb dX10_setStation_24 rfl hl (by decide) rfl (fun ls hl => ?_)
    refine lv_iload_n hx hb dX10_setStation_25 rfl (lv_at hl 0 rfl) ?_
    refine lv_iload_n hx hb dX10_setStation_26 rfl (lv_at hl 2 rfl) ?_
    refine lv_icmp_eq (tgt := 35) hx hb dX10_setStation_27 (by decide) (fun c_27 => ?_) (fun c_27 => ?_)
    · refine lv_iload_n hx hb dX10_setStation_35 rfl (lv_at hl 0 rfl) ?_
      have hP : va_P E.1 vwCl ([[(h0, .inr (9, [.int 0, .ref k1, .int (nI (m_svC d)), .ref k2, .ref k3, .int ln, .int at0, .int pt, .int mi, .int nu, .long ha]))], [(k1, .inl (E.2 0, 1160, .inl (m_svA sv d)))]] : List va_W).flatten H := zf_sub hP [0, 1] rfl
      have hD : va_D A ([[(h0, .inr (9, [.int 0, .ref k1, .int (nI (m_svC d)), .ref k2, .ref k3, .int ln, .int at0, .int pt, .int mi, .int nu, .long ha]))], [(k1, .inl (E.2 0, 1160, .inl (m_svA sv d)))]] : List va_W).flatten := zf_subD hD [0, 1] (by decide) rfl
      exact W.zret (v := (sv 2)) hx hb hr (z_bool h2) (z_end hP hD hS (by rw [if_pos c_27])) hS.2.2 dX10_setStation_36 hlocks
    · refine lv_aload_n hx hb dX10_setStation_30 rfl (lv_at hl 1 rfl) ?_
      refine lv_iload_n hx hb dX10_setStation_31 rfl (lv_at hl 2 rfl) ?_
      have hPc : va_P E.1 vwCl ([[(h0, .inr (9, [.int 0, .ref k1, .int (nI (m_svC d)), .ref k2, .ref k3, .int ln, .int at0, .int pt, .int mi, .int nu, .long ha]))], [(k1, .inl (E.2 0, 1160, .inl (m_svA sv d)))]] : List va_W).flatten H := zf_sub hP [0, 1] rfl
      have hDc : va_D A ([[(h0, .inr (9, [.int 0, .ref k1, .int (nI (m_svC d)), .ref k2, .ref k3, .int ln, .int at0, .int pt, .int mi, .int nu, .long ha]))], [(k1, .inl (E.2 0, 1160, .inl (m_svA sv d)))]] : List va_W).flatten := zf_subD hD [0, 1] (by decide) rfl
      refine z_mut (Sc := [[(h0, .inr (9, [.int 0, .ref k1, .int (nI (m_svC d)), .ref k2, .ref k3, .int ln, .int at0, .int pt, .int mi, .int nu, .long ha]))], [(k1, .inl (E.2 0, 1160, .inl (m_svA sv d)))]]) (Sr := []) (W1 := [[(h0, .inr (9, [.int 0, .ref k1, .int (nI (m_svC d)), .ref k2, .ref k3, .int ln, .int at0, .int pt, .int mi, .int nu, .long ha]))], [(k1, .inl (E.2 0, 1160, .inl (m_swA (m_svA sv d) on)))]]) (va_runV (As := [.int on]) (rest := []) ⟨hx, hb, hml, hown, hts⟩ (c_X10_switches l E h0 k1 k2 k3 0 (nI (m_svC d)) ln at0 pt mi nu ha (m_svA sv d) on hon H.size) (cwV 1 hts gX10_setStation_X10_switches rfl rfl rfl (by decide +kernel) ⟨Nat.le_of_ble_eq_true rfl, Nat.le_of_ble_eq_true rfl⟩) ⟨zP.blind, va_recv hK.1 hPc (ci := 9) (q0 := 0) rfl rfl, z_pre hK hPc hDc⟩ rfl rfl hl.1 rfl (lv_room (Nat.le_of_ble_eq_true rfl)) dX10_setStation_32 ⟨Nat.le_of_ble_eq_true rfl, Nat.le_of_ble_eq_true rfl⟩) hP hD hS hA [0, 1] [] rfl rfl (by decide) (by decide) (fun H locs hP hD hS => ?_)
      have hP : va_P E.1 vwCl ([[(h0, .inr (9, [.int 0, .ref k1, .int (nI (m_svC d)), .ref k2, .ref k3, .int ln, .int at0, .int pt, .int mi, .int nu, .long ha]))], [(k1, .inl (E.2 0, 1160, .inl (m_swA (m_svA sv d) on)))]] : List va_W).flatten H := hP
      have hD : va_D A ([[(h0, .inr (9, [.int 0, .ref k1, .int (nI (m_svC d)), .ref k2, .ref k3, .int ln, .int at0, .int pt, .int mi, .int nu, .long ha]))], [(k1, .inl (E.2 0, 1160, .inl (m_swA (m_svA sv d) on)))]] : List va_W).flatten := hD
      refine W.eq (g2 := F0 Mi 35 ls []) rfl ?_
      refine lv_iload_n hx hb dX10_setStation_35 rfl (lv_at hl 0 rfl) ?_
      have hP : va_P E.1 vwCl ([[(h0, .inr (9, [.int 0, .ref k1, .int (nI (m_svC d)), .ref k2, .ref k3, .int ln, .int at0, .int pt, .int mi, .int nu, .long ha]))], [(k1, .inl (E.2 0, 1160, .inl (m_swA (m_svA sv d) on)))]] : List va_W).flatten H := zf_sub hP [0, 1] rfl
      have hD : va_D A ([[(h0, .inr (9, [.int 0, .ref k1, .int (nI (m_svC d)), .ref k2, .ref k3, .int ln, .int at0, .int pt, .int mi, .int nu, .long ha]))], [(k1, .inl (E.2 0, 1160, .inl (m_swA (m_svA sv d) on)))]] : List va_W).flatten := zf_subD hD [0, 1] (by decide) rfl
      exact W.zret (v := (sv 2)) hx hb hr (z_bool h2) (z_end hP hD hS (by rw [if_neg c_27])) hS.2.2 dX10_setStation_36 hlocks
  · refine lv_iconst (v := 1) hx hb dX10_setStation_19 (by decide) ?_
    refine lv_goto (tgt := 24) hx hb dX10_setStation_20 (by decide) ?_
    refine z_topi (y := (sv 2)) c_16.symm ?_
    refine lv_istore_n (lv' := [(2, .int (sv 2)), (0, .ref h0), (1, .int on)]) hx hb dX10_setStation_24 rfl hl (by decide) rfl (fun ls hl => ?_)
    refine lv_iload_n hx hb dX10_setStation_25 rfl (lv_at hl 0 rfl) ?_
    refine lv_iload_n hx hb dX10_setStation_26 rfl (lv_at hl 2 rfl) ?_
    refine lv_icmp_eq (tgt := 35) hx hb dX10_setStation_27 (by decide) (fun c_27 => ?_) (fun c_27 => ?_)
    · refine lv_iload_n hx hb dX10_setStation_35 rfl (lv_at hl 0 rfl) ?_
      have hP : va_P E.1 vwCl ([[(h0, .inr (9, [.int 0, .ref k1, .int (nI (m_svC d)), .ref k2, .ref k3, .int ln, .int at0, .int pt, .int mi, .int nu, .long ha]))], [(k1, .inl (E.2 0, 1160, .inl (m_svA sv d)))]] : List va_W).flatten H := zf_sub hP [0, 1] rfl
      have hD : va_D A ([[(h0, .inr (9, [.int 0, .ref k1, .int (nI (m_svC d)), .ref k2, .ref k3, .int ln, .int at0, .int pt, .int mi, .int nu, .long ha]))], [(k1, .inl (E.2 0, 1160, .inl (m_svA sv d)))]] : List va_W).flatten := zf_subD hD [0, 1] (by decide) rfl
      exact W.zret (v := (sv 2)) hx hb hr (z_bool h2) (z_end hP hD hS (by rw [if_pos c_27])) hS.2.2 dX10_setStation_36 hlocks
    · refine lv_aload_n hx hb dX10_setStation_30 rfl (lv_at hl 1 rfl) ?_
      refine lv_iload_n hx hb dX10_setStation_31 rfl (lv_at hl 2 rfl) ?_
      have hPc : va_P E.1 vwCl ([[(h0, .inr (9, [.int 0, .ref k1, .int (nI (m_svC d)), .ref k2, .ref k3, .int ln, .int at0, .int pt, .int mi, .int nu, .long ha]))], [(k1, .inl (E.2 0, 1160, .inl (m_svA sv d)))]] : List va_W).flatten H := zf_sub hP [0, 1] rfl
      have hDc : va_D A ([[(h0, .inr (9, [.int 0, .ref k1, .int (nI (m_svC d)), .ref k2, .ref k3, .int ln, .int at0, .int pt, .int mi, .int nu, .long ha]))], [(k1, .inl (E.2 0, 1160, .inl (m_svA sv d)))]] : List va_W).flatten := zf_subD hD [0, 1] (by decide) rfl
      refine z_mut (Sc := [[(h0, .inr (9, [.int 0, .ref k1, .int (nI (m_svC d)), .ref k2, .ref k3, .int ln, .int at0, .int pt, .int mi, .int nu, .long ha]))], [(k1, .inl (E.2 0, 1160, .inl (m_svA sv d)))]]) (Sr := []) (W1 := [[(h0, .inr (9, [.int 0, .ref k1, .int (nI (m_svC d)), .ref k2, .ref k3, .int ln, .int at0, .int pt, .int mi, .int nu, .long ha]))], [(k1, .inl (E.2 0, 1160, .inl (m_swA (m_svA sv d) on)))]]) (va_runV (As := [.int on]) (rest := []) ⟨hx, hb, hml, hown, hts⟩ (c_X10_switches l E h0 k1 k2 k3 0 (nI (m_svC d)) ln at0 pt mi nu ha (m_svA sv d) on hon H.size) (cwV 1 hts gX10_setStation_X10_switches rfl rfl rfl (by decide +kernel) ⟨Nat.le_of_ble_eq_true rfl, Nat.le_of_ble_eq_true rfl⟩) ⟨zP.blind, va_recv hK.1 hPc (ci := 9) (q0 := 0) rfl rfl, z_pre hK hPc hDc⟩ rfl rfl hl.1 rfl (lv_room (Nat.le_of_ble_eq_true rfl)) dX10_setStation_32 ⟨Nat.le_of_ble_eq_true rfl, Nat.le_of_ble_eq_true rfl⟩) hP hD hS hA [0, 1] [] rfl rfl (by decide) (by decide) (fun H locs hP hD hS => ?_)
      have hP : va_P E.1 vwCl ([[(h0, .inr (9, [.int 0, .ref k1, .int (nI (m_svC d)), .ref k2, .ref k3, .int ln, .int at0, .int pt, .int mi, .int nu, .long ha]))], [(k1, .inl (E.2 0, 1160, .inl (m_swA (m_svA sv d) on)))]] : List va_W).flatten H := hP
      have hD : va_D A ([[(h0, .inr (9, [.int 0, .ref k1, .int (nI (m_svC d)), .ref k2, .ref k3, .int ln, .int at0, .int pt, .int mi, .int nu, .long ha]))], [(k1, .inl (E.2 0, 1160, .inl (m_swA (m_svA sv d) on)))]] : List va_W).flatten := hD
      refine W.eq (g2 := F0 Mi 35 ls []) rfl ?_
      refine lv_iload_n hx hb dX10_setStation_35 rfl (lv_at hl 0 rfl) ?_
      have hP : va_P E.1 vwCl ([[(h0, .inr (9, [.int 0, .ref k1, .int (nI (m_svC d)), .ref k2, .ref k3, .int ln, .int at0, .int pt, .int mi, .int nu, .long ha]))], [(k1, .inl (E.2 0, 1160, .inl (m_swA (m_svA sv d) on)))]] : List va_W).flatten H := zf_sub hP [0, 1] rfl
      have hD : va_D A ([[(h0, .inr (9, [.int 0, .ref k1, .int (nI (m_svC d)), .ref k2, .ref k3, .int ln, .int at0, .int pt, .int mi, .int nu, .long ha]))], [(k1, .inl (E.2 0, 1160, .inl (m_swA (m_svA sv d) on)))]] : List va_W).flatten := zf_subD hD [0, 1] (by decide) rfl
      exact W.zret (v := (sv 2)) hx hb hr (z_bool h2) (z_end hP hD hS (by rw [if_neg c_27])) hS.2.2 dX10_setStation_36 hlocks

def m_dnM (a q : Int32) : Nat → Int32
  | 0 => -1
  | j + 1 => if m_std (nI (5000 + j)) - q < a then m_dnM a q j else nI (5000 + j)

set_option maxHeartbeats 4000000 in
set_option maxRecDepth 100000 in
theorem c_X10_pressureFor (l : Launch) (E : zE) (h0 k1 k2 k3 : Nat) (th sd ln at0 pt mi nu : Int32) (ha : Int64) (sv : Nat → Int32) (a : Int32) : zR l yX10_pressureFor wsX10_pressureFor ({ frames := 1, cells := 0, slots := 0, locals := 21 }) E [.ref h0, .int a] ([[(h0, .inr (9, [.int th, .ref k1, .int sd, .ref k2, .ref k3, .int ln, .int at0, .int pt, .int mi, .int nu, .long ha]))], [(k1, .inl (E.2 0, 1160, .inl sv))]] : List va_W).flatten (some (.int (m_dnM a (m_std (sv 1)) 6001))) := by
  refine z_startr (cc := cX10_pressureFor) (maxL := 3) (ret := (some .int)) (by decide) rfl (Nat.le_of_ble_eq_true rfl) ?_
  intro Pg En s Mi below meth Cd hx hb hr hts hown hlocks hml hP hK ls hl
  have hl : lv_has ls 3 [(0, .ref h0), (1, .int a)] := hl
  have hi_X10 : ∀ w ∈ wsX100, w ∈ wsX10_pressureFor := by decide +kernel
  have LOOP_4 : ∀ (kz : Nat) (j : Nat) (x : Int32), j < kz → j ≤ 6001 → x = nI (4999 + j) → m_dnM a (m_std (sv 1)) 6001 = m_dnM a (m_std (sv 1)) j →  ∀ (ls : Array Slot), lv_has ls 3 [(0, .ref h0), (1, .int a), (2, .int x)] → W Pg l En ({ frames := 1, cells := 0, slots := 0, locals := 21 } : Room) s Mi ([.ref h0, .int a] : List Value).toArray below meth Cd s.heap [] 0 0 (MQ below (zQr (some (.int (m_dnM a (m_std (sv 1)) 6001)))) ([.ref h0, .int a] : List Value).toArray s 0 0 (fun _ => False)) (F0 Mi 4 ls []) := by
    intro kz
    induction kz with
    | zero => intro j x h1 h2 h3 h5; exact absurd h1 (by omega)
    | succ kz ih =>
      intro j x h1 h2 h3 h5 ls hl
      refine lv_iload_n hx hb dX10_pressureFor_4 rfl (lv_at hl 2 rfl) ?_
      refine lv_sipush (v := 5000) hx hb dX10_pressureFor_5 (by decide) ?_
      refine lv_icmp_lt (tgt := 35) hx hb dX10_pressureFor_8 (by decide) (fun c_8 => ?_) (fun c_8 => ?_)
      · refine lv_iload_n hx hb dX10_pressureFor_35 rfl (lv_at hl 2 rfl) ?_
        refine lv_sipush (v := 5000) hx hb dX10_pressureFor_36 (by decide) ?_
        refine lv_icmp_ge (tgt := 46) hx hb dX10_pressureFor_39 (by decide) (fun h9 => absurd h9 ((Int32.not_le.mpr c_8))) (fun _ => ?_)
        refine lv_iconst (v := (-1)) hx hb dX10_pressureFor_42 (by decide) ?_
        refine lv_goto (tgt := 47) hx hb dX10_pressureFor_43 (by decide) ?_
        refine z_topi (y := m_dnM a (m_std (sv 1)) 6001) (by have e0 : j = 0 := (by have := nI_ltn (a := 4999 + j) (b := 5000) (by omega) (by decide) (by rw [← h3]; exact c_8); omega); rw [h5, e0]; rfl) ?_
        exact W.iret (v := m_dnM a (m_std (sv 1)) 6001) hx hb hr z_endR (fun _ h => by cases h) dX10_pressureFor_47 hlocks
      · have hj : 1 ≤ j := by have := nI_nltn (a := 4999 + j) (b := 5000) (by omega) (by decide) (by rw [← h3]; exact c_8); omega
        refine lv_iload_n hx hb dX10_pressureFor_11 rfl (lv_at hl 2 rfl) ?_
        refine z_rdv (va_runS (As := [.int x]) (rest := []) ⟨hx, hb, hml, hown, hts⟩ (c_X10_standardOf l E x) (va_cwS 1 hts gX10_pressureFor_X10_standardOf rfl rfl rfl (by decide +kernel) ⟨Nat.le_of_ble_eq_true rfl, Nat.le_of_ble_eq_true rfl⟩) ⟨zPr.blind, z_prer hK zP_nil⟩ rfl rfl hl.1 rfl (lv_room (Nat.le_of_ble_eq_true rfl)) dX10_pressureFor_12 ⟨Nat.le_of_ble_eq_true rfl, Nat.le_of_ble_eq_true rfl⟩) ?_
        refine W.eq (g2 := F0 Mi 15 ls [.int (m_std x)]) rfl ?_
        refine lv_aload_n hx hb dX10_pressureFor_15 rfl (lv_at hl 0 rfl) ?_
        refine va_get (D := E.1) (ci := 9) (v := .ref k1) (C := RX10) (T := TX10) (N := 11) hx hb hts hi_X10 hown hK.1 hP 0 rfl rfl 1 (by decide) (hts (.fieldLink RX10 7 "AltimeterWatchModel" "s" "[I") (by decide +kernel)) (fun _ h9 => h9) rfl dX10_pressureFor_16 ?_
        refine lv_iconst (v := 1) hx hb dX10_pressureFor_19 (by decide) ?_
        refine z_iald (k := 1) hx hb hK.1 hP 1 rfl rfl (by decide) (by decide) dX10_pressureFor_20 ?_
        refine z_rdv (va_runS (As := [.int (sv 1)]) (rest := [.int (m_std x)]) ⟨hx, hb, hml, hown, hts⟩ (c_X10_standardOf l E (sv 1)) (va_cwS 1 hts gX10_pressureFor_X10_standardOf rfl rfl rfl (by decide +kernel) ⟨Nat.le_of_ble_eq_true rfl, Nat.le_of_ble_eq_true rfl⟩) ⟨zPr.blind, z_prer hK zP_nil⟩ rfl rfl hl.1 rfl (lv_room (Nat.le_of_ble_eq_true rfl)) dX10_pressureFor_21 ⟨Nat.le_of_ble_eq_true rfl, Nat.le_of_ble_eq_true rfl⟩) ?_
        refine W.eq (g2 := F0 Mi 24 ls [.int (m_std (sv 1)), .int (m_std x)]) rfl ?_
        refine lv_isub hx hb dX10_pressureFor_24 ?_
        refine lv_iload_n hx hb dX10_pressureFor_25 rfl (lv_at hl 1 rfl) ?_
        refine lv_icmp_ge (tgt := 35) hx hb dX10_pressureFor_26 (by decide) (fun c_26 => ?_) (fun c_26 => ?_)
        · refine lv_iload_n hx hb dX10_pressureFor_35 rfl (lv_at hl 2 rfl) ?_
          refine lv_sipush (v := 5000) hx hb dX10_pressureFor_36 (by decide) ?_
          refine lv_icmp_ge (tgt := 46) hx hb dX10_pressureFor_39 (by decide) (fun _ => ?_) (fun h9 => absurd ((Int32.not_lt.mp c_8)) h9)
          refine lv_iload_n hx hb dX10_pressureFor_46 rfl (lv_at hl 2 rfl) ?_
          refine z_topi (y := m_dnM a (m_std (sv 1)) 6001) (by rw [h5, show j = j - 1 + 1 by omega, m_dnM, show 5000 + (j - 1) = 4999 + j by omega, ← h3, if_neg (Int32.not_lt.mpr c_26)]) ?_
          exact W.iret (v := m_dnM a (m_std (sv 1)) 6001) hx hb hr z_endR (fun _ h => by cases h) dX10_pressureFor_47 hlocks
        · obtain ⟨x_1, ex_1⟩ : ∃ y : Int32, y = x + (-1) := ⟨_, rfl⟩
          refine lv_iinc (v := x_1) (lv' := [(2, .int x_1), (0, .ref h0), (1, .int a)]) hx hb dX10_pressureFor_29 hl (k := 2) rfl (by rw [ex_1]; rfl) (by decide) rfl (fun ls hl => ?_)
          refine lv_goto (tgt := 4) hx hb dX10_pressureFor_32 (by decide) ?_
          exact ih (j - 1) x_1 (by omega) (by omega) (by rw [ex_1, h3, ← Int32.sub_eq_add_neg]; exact (pk_sub (a := 4999 + j) (b := 1) (by omega)).trans (by rw [show 4999 + j - 1 = 4999 + (j - 1) by omega])) (by rw [h5, show j = j - 1 + 1 by omega, m_dnM, show 5000 + (j - 1) = 4999 + j by omega, ← h3, if_pos (Int32.not_le.mp c_26)]; rfl) ls (lv_sub hl [1, 2, 0] rfl)
  refine lv_sipush (v := 11000) hx hb dX10_pressureFor_0 (by decide) ?_
  refine lv_istore_n (lv' := [(2, .int 11000), (0, .ref h0), (1, .int a)]) hx hb dX10_pressureFor_3 rfl hl (by decide) rfl (fun ls hl => ?_)
  exact LOOP_4 6002 6001 11000 (by decide) (by decide) rfl rfl ls (lv_sub hl [1, 2, 0] rfl)

set_option maxHeartbeats 4000000 in
set_option maxRecDepth 100000 in
theorem c_X10_pressureAt_n (l : Launch) (E : zE) (h0 k1 k2 k3 : Nat) (th sd ln at0 pt mi nu : Int32) (ha : Int64) (sv : Nat → Int32) (x : Int32) (hok : m_in x (-5000) 50000 = 0) : zM l yX10_pressureAt wsX10_pressureAt ({ frames := 1, cells := 0, slots := 0, locals := 22 }) E [.ref h0, .int x] ([[(h0, .inr (9, [.int th, .ref k1, .int sd, .ref k2, .ref k3, .int ln, .int at0, .int pt, .int mi, .int nu, .long ha]))], [(k1, .inl (E.2 0, 1160, .inl sv))]] : List va_W).flatten (some (.int 0)) ([[(h0, .inr (9, [.int 1, .ref k1, .int sd, .ref k2, .ref k3, .int ln, .int at0, .int pt, .int mi, .int nu, .long ha]))], [(k1, .inl (E.2 0, 1160, .inl sv))]] : List va_W).flatten 0 0 := by
  refine z_start (cc := cX10_pressureAt) (maxL := 2) (ret := (some .int)) (by decide) rfl (Nat.le_of_ble_eq_true rfl) ?_
  intro Pg En s Mi below meth Cd A hx hb hr hts hown hlocks hin hml hA H hH hP hK hD hS ls hl
  have hl : lv_has ls 2 [(0, .ref h0), (1, .int x)] := hl
  refine lv_aload_n hx hb dX10_pressureAt_0 rfl (lv_at hl 0 rfl) ?_
  refine lv_iload_n hx hb dX10_pressureAt_1 rfl (lv_at hl 1 rfl) ?_
  refine lv_sipush (v := (-5000)) hx hb dX10_pressureAt_2 (by decide) ?_
  refine lv_ldc hx hb hown (hts (.constant RX10 93 (50000)) (by decide +kernel)) dX10_pressureAt_5 ?_
  refine z_rdv (va_runS (As := [.int x, .int (-5000), .int (50000)]) (rest := [.ref h0]) ⟨hx, hb, hml, hown, hts⟩ (c_X10_in l E x (-5000) (50000)) (va_cwS 3 hts gX10_pressureAt_X10_in rfl rfl rfl (by decide +kernel) ⟨Nat.le_of_ble_eq_true rfl, Nat.le_of_ble_eq_true rfl⟩) ⟨zPr.blind, z_prer hK zP_nil⟩ rfl rfl hl.1 rfl (lv_room (Nat.le_of_ble_eq_true rfl)) dX10_pressureAt_7 ⟨Nat.le_of_ble_eq_true rfl, Nat.le_of_ble_eq_true rfl⟩) ?_
  refine W.eq (g2 := F0 Mi 10 ls [.int (m_in x (-5000) (50000)), .ref h0]) rfl ?_
  refine lv_if_eq (tgt := 17) hx hb dX10_pressureAt_10 (by decide) (fun _ => ?_) (fun h9 => absurd (hok) h9)
  refine lv_iconst (v := 1) hx hb dX10_pressureAt_17 (by decide) ?_
  have hPc : va_P E.1 vwCl ([[(h0, .inr (9, [.int th, .ref k1, .int sd, .ref k2, .ref k3, .int ln, .int at0, .int pt, .int mi, .int nu, .long ha]))]] : List va_W).flatten H := zf_sub hP [0] rfl
  have hDc : va_D A ([[(h0, .inr (9, [.int th, .ref k1, .int sd, .ref k2, .ref k3, .int ln, .int at0, .int pt, .int mi, .int nu, .long ha]))]] : List va_W).flatten := zf_subD hD [0] (by decide) rfl
  refine z_mut (Sc := [[(h0, .inr (9, [.int th, .ref k1, .int sd, .ref k2, .ref k3, .int ln, .int at0, .int pt, .int mi, .int nu, .long ha]))]]) (Sr := [[(k1, .inl (E.2 0, 1160, .inl sv))]]) (W1 := [[(h0, .inr (9, [.int 1, .ref k1, .int sd, .ref k2, .ref k3, .int ln, .int at0, .int pt, .int mi, .int nu, .long ha]))]]) (va_runV (As := [.int 1]) (rest := []) ⟨hx, hb, hml, hown, hts⟩ (c_X10_holds l E h0 k1 k2 k3 th sd ln at0 pt mi nu ha 1 H.size) (cwV 1 hts gX10_pressureAt_X10_holds rfl rfl rfl (by decide +kernel) ⟨Nat.le_of_ble_eq_true rfl, Nat.le_of_ble_eq_true rfl⟩) ⟨zP.blind, va_recv hK.1 hPc (ci := 9) (q0 := 0) rfl rfl, z_pre hK hPc hDc⟩ rfl rfl hl.1 rfl (lv_room (Nat.le_of_ble_eq_true rfl)) dX10_pressureAt_18 ⟨Nat.le_of_ble_eq_true rfl, Nat.le_of_ble_eq_true rfl⟩) hP hD hS hA [0] [1] rfl rfl (by decide) (by decide) (fun H locs hP hD hS => ?_)
  have hP : va_P E.1 vwCl ([[(k1, .inl (E.2 0, 1160, .inl sv))], [(h0, .inr (9, [.int 1, .ref k1, .int sd, .ref k2, .ref k3, .int ln, .int at0, .int pt, .int mi, .int nu, .long ha]))]] : List va_W).flatten H := hP
  have hD : va_D A ([[(k1, .inl (E.2 0, 1160, .inl sv))], [(h0, .inr (9, [.int 1, .ref k1, .int sd, .ref k2, .ref k3, .int ln, .int at0, .int pt, .int mi, .int nu, .long ha]))]] : List va_W).flatten := hD
  refine W.eq (g2 := F0 Mi 21 ls [.int (m_z01 1)]) rfl ?_
  refine lv_if_eq (tgt := 32) hx hb dX10_pressureAt_21 (by decide) (fun _ => ?_) (fun h9 => absurd ((by decide)) h9)
  refine lv_iconst (v := 0) hx hb dX10_pressureAt_32 (by decide) ?_
  have hP : va_P E.1 vwCl ([[(h0, .inr (9, [.int 1, .ref k1, .int sd, .ref k2, .ref k3, .int ln, .int at0, .int pt, .int mi, .int nu, .long ha]))], [(k1, .inl (E.2 0, 1160, .inl sv))]] : List va_W).flatten H := zf_sub hP [1, 0] rfl
  have hD : va_D A ([[(h0, .inr (9, [.int 1, .ref k1, .int sd, .ref k2, .ref k3, .int ln, .int at0, .int pt, .int mi, .int nu, .long ha]))], [(k1, .inl (E.2 0, 1160, .inl sv))]] : List va_W).flatten := zf_subD hD [1, 0] (by decide) rfl
  exact W.iret (v := 0) hx hb hr (z_end hP hD hS rfl) hS.2.2 dX10_pressureAt_33 hlocks

set_option maxHeartbeats 4000000 in
set_option maxRecDepth 100000 in
theorem c_X10_pressureAt_y (l : Launch) (E : zE) (h0 k1 k2 k3 : Nat) (th sd ln at0 pt mi nu : Int32) (ha : Int64) (sv : Nat → Int32) (x : Int32) (hok : m_in x (-5000) 50000 = 1) : zM l yX10_pressureAt wsX10_pressureAt ({ frames := 2, cells := 0, slots := 0, locals := 43 }) E [.ref h0, .int x] ([[(h0, .inr (9, [.int th, .ref k1, .int sd, .ref k2, .ref k3, .int ln, .int at0, .int pt, .int mi, .int nu, .long ha]))], [(k1, .inl (E.2 0, 1160, .inl sv))]] : List va_W).flatten (some (.int (m_dnM x (m_std (sv 1)) 6001))) ([[(h0, .inr (9, [.int 0, .ref k1, .int sd, .ref k2, .ref k3, .int ln, .int at0, .int pt, .int mi, .int nu, .long ha]))], [(k1, .inl (E.2 0, 1160, .inl sv))]] : List va_W).flatten 0 0 := by
  refine z_start (cc := cX10_pressureAt) (maxL := 2) (ret := (some .int)) (by decide) rfl (Nat.le_of_ble_eq_true rfl) ?_
  intro Pg En s Mi below meth Cd A hx hb hr hts hown hlocks hin hml hA H hH hP hK hD hS ls hl
  have hl : lv_has ls 2 [(0, .ref h0), (1, .int x)] := hl
  refine lv_aload_n hx hb dX10_pressureAt_0 rfl (lv_at hl 0 rfl) ?_
  refine lv_iload_n hx hb dX10_pressureAt_1 rfl (lv_at hl 1 rfl) ?_
  refine lv_sipush (v := (-5000)) hx hb dX10_pressureAt_2 (by decide) ?_
  refine lv_ldc hx hb hown (hts (.constant RX10 93 (50000)) (by decide +kernel)) dX10_pressureAt_5 ?_
  refine z_rdv (va_runS (As := [.int x, .int (-5000), .int (50000)]) (rest := [.ref h0]) ⟨hx, hb, hml, hown, hts⟩ (c_X10_in l E x (-5000) (50000)) (va_cwS 3 hts gX10_pressureAt_X10_in rfl rfl rfl (by decide +kernel) ⟨Nat.le_of_ble_eq_true rfl, Nat.le_of_ble_eq_true rfl⟩) ⟨zPr.blind, z_prer hK zP_nil⟩ rfl rfl hl.1 rfl (lv_room (Nat.le_of_ble_eq_true rfl)) dX10_pressureAt_7 ⟨Nat.le_of_ble_eq_true rfl, Nat.le_of_ble_eq_true rfl⟩) ?_
  refine W.eq (g2 := F0 Mi 10 ls [.int (m_in x (-5000) (50000)), .ref h0]) rfl ?_
  refine lv_if_eq (tgt := 17) hx hb dX10_pressureAt_10 (by decide) (fun h9 => absurd h9 ((by rw [hok]; decide))) (fun _ => ?_)
  refine lv_iconst (v := 0) hx hb dX10_pressureAt_13 (by decide) ?_
  refine lv_goto (tgt := 18) hx hb dX10_pressureAt_14 (by decide) ?_
  have hPc : va_P E.1 vwCl ([[(h0, .inr (9, [.int th, .ref k1, .int sd, .ref k2, .ref k3, .int ln, .int at0, .int pt, .int mi, .int nu, .long ha]))]] : List va_W).flatten H := zf_sub hP [0] rfl
  have hDc : va_D A ([[(h0, .inr (9, [.int th, .ref k1, .int sd, .ref k2, .ref k3, .int ln, .int at0, .int pt, .int mi, .int nu, .long ha]))]] : List va_W).flatten := zf_subD hD [0] (by decide) rfl
  refine z_mut (Sc := [[(h0, .inr (9, [.int th, .ref k1, .int sd, .ref k2, .ref k3, .int ln, .int at0, .int pt, .int mi, .int nu, .long ha]))]]) (Sr := [[(k1, .inl (E.2 0, 1160, .inl sv))]]) (W1 := [[(h0, .inr (9, [.int 0, .ref k1, .int sd, .ref k2, .ref k3, .int ln, .int at0, .int pt, .int mi, .int nu, .long ha]))]]) (va_runV (As := [.int 0]) (rest := []) ⟨hx, hb, hml, hown, hts⟩ (c_X10_holds l E h0 k1 k2 k3 th sd ln at0 pt mi nu ha 0 H.size) (cwV 1 hts gX10_pressureAt_X10_holds rfl rfl rfl (by decide +kernel) ⟨Nat.le_of_ble_eq_true rfl, Nat.le_of_ble_eq_true rfl⟩) ⟨zP.blind, va_recv hK.1 hPc (ci := 9) (q0 := 0) rfl rfl, z_pre hK hPc hDc⟩ rfl rfl hl.1 rfl (lv_room (Nat.le_of_ble_eq_true rfl)) dX10_pressureAt_18 ⟨Nat.le_of_ble_eq_true rfl, Nat.le_of_ble_eq_true rfl⟩) hP hD hS hA [0] [1] rfl rfl (by decide) (by decide) (fun H locs hP hD hS => ?_)
  have hP : va_P E.1 vwCl ([[(k1, .inl (E.2 0, 1160, .inl sv))], [(h0, .inr (9, [.int 0, .ref k1, .int sd, .ref k2, .ref k3, .int ln, .int at0, .int pt, .int mi, .int nu, .long ha]))]] : List va_W).flatten H := hP
  have hD : va_D A ([[(k1, .inl (E.2 0, 1160, .inl sv))], [(h0, .inr (9, [.int 0, .ref k1, .int sd, .ref k2, .ref k3, .int ln, .int at0, .int pt, .int mi, .int nu, .long ha]))]] : List va_W).flatten := hD
  refine W.eq (g2 := F0 Mi 21 ls [.int (m_z01 0)]) rfl ?_
  refine lv_if_eq (tgt := 32) hx hb dX10_pressureAt_21 (by decide) (fun h9 => absurd h9 ((by decide))) (fun _ => ?_)
  refine lv_aload_n hx hb dX10_pressureAt_24 rfl (lv_at hl 0 rfl) ?_
  refine lv_iload_n hx hb dX10_pressureAt_25 rfl (lv_at hl 1 rfl) ?_
  have hPc : va_P E.1 vwCl ([[(h0, .inr (9, [.int 0, .ref k1, .int sd, .ref k2, .ref k3, .int ln, .int at0, .int pt, .int mi, .int nu, .long ha]))], [(k1, .inl (E.2 0, 1160, .inl sv))]] : List va_W).flatten H := zf_sub hP [1, 0] rfl
  refine z_rdv (va_runV (As := [.int x]) (rest := []) ⟨hx, hb, hml, hown, hts⟩ (c_X10_pressureFor l E h0 k1 k2 k3 0 sd ln at0 pt mi nu ha sv x) (cwV 1 hts gX10_pressureAt_X10_pressureFor rfl rfl rfl (by decide +kernel) ⟨Nat.le_of_ble_eq_true rfl, Nat.le_of_ble_eq_true rfl⟩) ⟨zPr.blind, va_recv hK.1 hPc (ci := 9) (q0 := 0) rfl rfl, z_prer hK hPc⟩ rfl rfl hl.1 rfl (lv_room (Nat.le_of_ble_eq_true rfl)) dX10_pressureAt_26 ⟨Nat.le_of_ble_eq_true rfl, Nat.le_of_ble_eq_true rfl⟩) ?_
  refine W.eq (g2 := F0 Mi 29 ls [.int (m_dnM x (m_std (sv 1)) 6001)]) rfl ?_
  refine lv_goto (tgt := 33) hx hb dX10_pressureAt_29 (by decide) ?_
  have hP : va_P E.1 vwCl ([[(h0, .inr (9, [.int 0, .ref k1, .int sd, .ref k2, .ref k3, .int ln, .int at0, .int pt, .int mi, .int nu, .long ha]))], [(k1, .inl (E.2 0, 1160, .inl sv))]] : List va_W).flatten H := zf_sub hP [1, 0] rfl
  have hD : va_D A ([[(h0, .inr (9, [.int 0, .ref k1, .int sd, .ref k2, .ref k3, .int ln, .int at0, .int pt, .int mi, .int nu, .long ha]))], [(k1, .inl (E.2 0, 1160, .inl sv))]] : List va_W).flatten := zf_subD hD [1, 0] (by decide) rfl
  exact W.iret (v := (m_dnM x (m_std (sv 1)) 6001)) hx hb hr (z_end hP hD hS rfl) hS.2.2 dX10_pressureAt_33 hlocks

set_option maxHeartbeats 4000000 in
set_option maxRecDepth 100000 in
theorem c_X10_clearText (l : Launch) (E : zE) (h0 k1 k2 k3 : Nat) (th sd ln at0 pt mi nu : Int32) (ha : Int64) (tx : Nat → Int32) : zM l yX10_clearText wsX10_clearText ({ frames := 0, cells := 0, slots := 0, locals := 0 }) E [.ref h0] ([[(h0, .inr (9, [.int th, .ref k1, .int sd, .ref k2, .ref k3, .int ln, .int at0, .int pt, .int mi, .int nu, .long ha]))]] : List va_W).flatten (some (.int ln)) ([[(h0, .inr (9, [.int 0, .ref k1, .int sd, .ref k2, .ref k3, .int 0, .int at0, .int pt, .int mi, .int nu, .long ha]))]] : List va_W).flatten 0 0 := by
  refine z_start (cc := cX10_clearText) (maxL := 2) (ret := (some .int)) (by decide) rfl (Nat.le_of_ble_eq_true rfl) ?_
  intro Pg En s Mi below meth Cd A hx hb hr hts hown hlocks hin hml hA H hH hP hK hD hS ls hl
  have hl : lv_has ls 2 [(0, .ref h0)] := hl
  have hi_X10 : ∀ w ∈ wsX100, w ∈ wsX10_clearText := by decide +kernel
  refine lv_aload_n hx hb dX10_clearText_0 rfl (lv_at hl 0 rfl) ?_
  refine lv_iconst (v := 0) hx hb dX10_clearText_1 (by decide) ?_
  refine va_put (D := E.1) (ci := 9) (v := .int 0) (ty := .int) (C := RX10) (T := TX10) (N := 11) hx hb hts hi_X10 tyX10 tyX10_ok nmX10 hown hK.1 hP hD hS 0 rfl rfl 0 (by decide) (hts (.fieldLink RX10 20 "AltimeterWatchModel" "thrown" "I") (by decide +kernel)) (fun _ h9 => h9) rfl (by decide +kernel) rfl rfl (Nat.le_of_ble_eq_true rfl) dX10_clearText_2 (fun H locs hP hD hS => ?_)
  have hP : va_P E.1 vwCl ([[(h0, .inr (9, [.int 0, .ref k1, .int sd, .ref k2, .ref k3, .int ln, .int at0, .int pt, .int mi, .int nu, .long ha]))]] : List va_W).flatten H := hP
  have hD : va_D A ([[(h0, .inr (9, [.int 0, .ref k1, .int sd, .ref k2, .ref k3, .int ln, .int at0, .int pt, .int mi, .int nu, .long ha]))]] : List va_W).flatten := hD
  refine lv_aload_n hx hb dX10_clearText_5 rfl (lv_at hl 0 rfl) ?_
  refine va_get (D := E.1) (ci := 9) (v := .int ln) (C := RX10) (T := TX10) (N := 11) hx hb hts hi_X10 hown hK.1 hP 0 rfl rfl 5 (by decide) (hts (.fieldLink RX10 112 "AltimeterWatchModel" "length" "I") (by decide +kernel)) (fun _ h9 => h9) rfl dX10_clearText_6 ?_
  refine lv_istore_n (lv' := [(1, .int ln), (0, .ref h0)]) hx hb dX10_clearText_9 rfl hl (by decide) rfl (fun ls hl => ?_)
  refine lv_aload_n hx hb dX10_clearText_10 rfl (lv_at hl 1 rfl) ?_
  refine lv_iconst (v := 0) hx hb dX10_clearText_11 (by decide) ?_
  refine va_put (D := E.1) (ci := 9) (v := .int 0) (ty := .int) (C := RX10) (T := TX10) (N := 11) hx hb hts hi_X10 tyX10 tyX10_ok nmX10 hown hK.1 hP hD hS 0 rfl rfl 5 (by decide) (hts (.fieldLink RX10 112 "AltimeterWatchModel" "length" "I") (by decide +kernel)) (fun _ h9 => h9) rfl (by decide +kernel) rfl rfl (Nat.le_of_ble_eq_true rfl) dX10_clearText_12 (fun H locs hP hD hS => ?_)
  have hP : va_P E.1 vwCl ([[(h0, .inr (9, [.int 0, .ref k1, .int sd, .ref k2, .ref k3, .int 0, .int at0, .int pt, .int mi, .int nu, .long ha]))]] : List va_W).flatten H := hP
  have hD : va_D A ([[(h0, .inr (9, [.int 0, .ref k1, .int sd, .ref k2, .ref k3, .int 0, .int at0, .int pt, .int mi, .int nu, .long ha]))]] : List va_W).flatten := hD
  refine lv_iload_n hx hb dX10_clearText_15 rfl (lv_at hl 0 rfl) ?_
  have hP : va_P E.1 vwCl ([[(h0, .inr (9, [.int 0, .ref k1, .int sd, .ref k2, .ref k3, .int 0, .int at0, .int pt, .int mi, .int nu, .long ha]))]] : List va_W).flatten H := zf_sub hP [0] rfl
  have hD : va_D A ([[(h0, .inr (9, [.int 0, .ref k1, .int sd, .ref k2, .ref k3, .int 0, .int at0, .int pt, .int mi, .int nu, .long ha]))]] : List va_W).flatten := zf_subD hD [0] (by decide) rfl
  exact W.iret (v := ln) hx hb hr (z_end hP hD hS rfl) hS.2.2 dX10_clearText_16 hlocks

set_option maxHeartbeats 4000000 in
set_option maxRecDepth 100000 in
theorem c_X10_append_n1 (l : Launch) (E : zE) (h0 k1 k2 k3 : Nat) (th sd ln at0 pt mi nu : Int32) (ha : Int64) (tx : Nat → Int32) (x : Int32) (hok : m_in x 33 126 = 0) : zM l yX10_append wsX10_append ({ frames := 1, cells := 0, slots := 0, locals := 22 }) E [.ref h0, .int x] ([[(h0, .inr (9, [.int th, .ref k1, .int sd, .ref k2, .ref k3, .int ln, .int at0, .int pt, .int mi, .int nu, .long ha]))], [(k3, .inl (E.2 0, 60, .inl tx))]] : List va_W).flatten (some (.int 0)) ([[(h0, .inr (9, [.int 1, .ref k1, .int sd, .ref k2, .ref k3, .int ln, .int at0, .int pt, .int mi, .int nu, .long ha]))], [(k3, .inl (E.2 0, 60, .inl tx))]] : List va_W).flatten 0 0 := by
  refine z_start (cc := cX10_append) (maxL := 2) (ret := (some .int)) (by decide) rfl (Nat.le_of_ble_eq_true rfl) ?_
  intro Pg En s Mi below meth Cd A hx hb hr hts hown hlocks hin hml hA H hH hP hK hD hS ls hl
  have hl : lv_has ls 2 [(0, .ref h0), (1, .int x)] := hl
  refine lv_aload_n hx hb dX10_append_0 rfl (lv_at hl 0 rfl) ?_
  refine lv_iload_n hx hb dX10_append_1 rfl (lv_at hl 1 rfl) ?_
  refine lv_bipush (v := 33) hx hb dX10_append_2 (by decide) ?_
  refine lv_bipush (v := 126) hx hb dX10_append_4 (by decide) ?_
  refine z_rdv (va_runS (As := [.int x, .int 33, .int 126]) (rest := [.ref h0]) ⟨hx, hb, hml, hown, hts⟩ (c_X10_in l E x 33 126) (va_cwS 3 hts gX10_append_X10_in rfl rfl rfl (by decide +kernel) ⟨Nat.le_of_ble_eq_true rfl, Nat.le_of_ble_eq_true rfl⟩) ⟨zPr.blind, z_prer hK zP_nil⟩ rfl rfl hl.1 rfl (lv_room (Nat.le_of_ble_eq_true rfl)) dX10_append_6 ⟨Nat.le_of_ble_eq_true rfl, Nat.le_of_ble_eq_true rfl⟩) ?_
  refine W.eq (g2 := F0 Mi 9 ls [.int (m_in x 33 126), .ref h0]) rfl ?_
  refine lv_if_ne (tgt := 16) hx hb dX10_append_9 (by decide) (fun h9 => absurd h9 ((fun h9 => h9 hok))) (fun _ => ?_)
  refine lv_iconst (v := 1) hx hb dX10_append_12 (by decide) ?_
  refine lv_goto (tgt := 30) hx hb dX10_append_13 (by decide) ?_
  have hPc : va_P E.1 vwCl ([[(h0, .inr (9, [.int th, .ref k1, .int sd, .ref k2, .ref k3, .int ln, .int at0, .int pt, .int mi, .int nu, .long ha]))]] : List va_W).flatten H := zf_sub hP [0] rfl
  have hDc : va_D A ([[(h0, .inr (9, [.int th, .ref k1, .int sd, .ref k2, .ref k3, .int ln, .int at0, .int pt, .int mi, .int nu, .long ha]))]] : List va_W).flatten := zf_subD hD [0] (by decide) rfl
  refine z_mut (Sc := [[(h0, .inr (9, [.int th, .ref k1, .int sd, .ref k2, .ref k3, .int ln, .int at0, .int pt, .int mi, .int nu, .long ha]))]]) (Sr := [[(k3, .inl (E.2 0, 60, .inl tx))]]) (W1 := [[(h0, .inr (9, [.int 1, .ref k1, .int sd, .ref k2, .ref k3, .int ln, .int at0, .int pt, .int mi, .int nu, .long ha]))]]) (va_runV (As := [.int 1]) (rest := []) ⟨hx, hb, hml, hown, hts⟩ (c_X10_holds l E h0 k1 k2 k3 th sd ln at0 pt mi nu ha 1 H.size) (cwV 1 hts gX10_append_X10_holds rfl rfl rfl (by decide +kernel) ⟨Nat.le_of_ble_eq_true rfl, Nat.le_of_ble_eq_true rfl⟩) ⟨zP.blind, va_recv hK.1 hPc (ci := 9) (q0 := 0) rfl rfl, z_pre hK hPc hDc⟩ rfl rfl hl.1 rfl (lv_room (Nat.le_of_ble_eq_true rfl)) dX10_append_30 ⟨Nat.le_of_ble_eq_true rfl, Nat.le_of_ble_eq_true rfl⟩) hP hD hS hA [0] [1] rfl rfl (by decide) (by decide) (fun H locs hP hD hS => ?_)
  have hP : va_P E.1 vwCl ([[(k3, .inl (E.2 0, 60, .inl tx))], [(h0, .inr (9, [.int 1, .ref k1, .int sd, .ref k2, .ref k3, .int ln, .int at0, .int pt, .int mi, .int nu, .long ha]))]] : List va_W).flatten H := hP
  have hD : va_D A ([[(k3, .inl (E.2 0, 60, .inl tx))], [(h0, .inr (9, [.int 1, .ref k1, .int sd, .ref k2, .ref k3, .int ln, .int at0, .int pt, .int mi, .int nu, .long ha]))]] : List va_W).flatten := hD
  refine W.eq (g2 := F0 Mi 33 ls [.int (m_z01 1)]) rfl ?_
  refine lv_if_ne (tgt := 38) hx hb dX10_append_33 (by decide) (fun h9 => absurd h9 ((by decide))) (fun _ => ?_)
  refine lv_iconst (v := 0) hx hb dX10_append_36 (by decide) ?_
  have hP : va_P E.1 vwCl ([[(h0, .inr (9, [.int 1, .ref k1, .int sd, .ref k2, .ref k3, .int ln, .int at0, .int pt, .int mi, .int nu, .long ha]))], [(k3, .inl (E.2 0, 60, .inl tx))]] : List va_W).flatten H := zf_sub hP [1, 0] rfl
  have hD : va_D A ([[(h0, .inr (9, [.int 1, .ref k1, .int sd, .ref k2, .ref k3, .int ln, .int at0, .int pt, .int mi, .int nu, .long ha]))], [(k3, .inl (E.2 0, 60, .inl tx))]] : List va_W).flatten := zf_subD hD [1, 0] (by decide) rfl
  exact W.iret (v := 0) hx hb hr (z_end hP hD hS rfl) hS.2.2 dX10_append_37 hlocks

set_option maxHeartbeats 4000000 in
set_option maxRecDepth 100000 in
theorem c_X10_append_n2 (l : Launch) (E : zE) (h0 k1 k2 k3 : Nat) (th sd ln at0 pt mi nu : Int32) (ha : Int64) (tx : Nat → Int32) (x : Int32) (hok : m_in x 33 126 = 1) (hln : ln = 60) : zM l yX10_append wsX10_append ({ frames := 1, cells := 0, slots := 0, locals := 22 }) E [.ref h0, .int x] ([[(h0, .inr (9, [.int th, .ref k1, .int sd, .ref k2, .ref k3, .int ln, .int at0, .int pt, .int mi, .int nu, .long ha]))], [(k3, .inl (E.2 0, 60, .inl tx))]] : List va_W).flatten (some (.int 0)) ([[(h0, .inr (9, [.int 2, .ref k1, .int sd, .ref k2, .ref k3, .int ln, .int at0, .int pt, .int mi, .int nu, .long ha]))], [(k3, .inl (E.2 0, 60, .inl tx))]] : List va_W).flatten 0 0 := by
  refine z_start (cc := cX10_append) (maxL := 2) (ret := (some .int)) (by decide) rfl (Nat.le_of_ble_eq_true rfl) ?_
  intro Pg En s Mi below meth Cd A hx hb hr hts hown hlocks hin hml hA H hH hP hK hD hS ls hl
  have hl : lv_has ls 2 [(0, .ref h0), (1, .int x)] := hl
  have hi_X10 : ∀ w ∈ wsX100, w ∈ wsX10_append := by decide +kernel
  refine lv_aload_n hx hb dX10_append_0 rfl (lv_at hl 0 rfl) ?_
  refine lv_iload_n hx hb dX10_append_1 rfl (lv_at hl 1 rfl) ?_
  refine lv_bipush (v := 33) hx hb dX10_append_2 (by decide) ?_
  refine lv_bipush (v := 126) hx hb dX10_append_4 (by decide) ?_
  refine z_rdv (va_runS (As := [.int x, .int 33, .int 126]) (rest := [.ref h0]) ⟨hx, hb, hml, hown, hts⟩ (c_X10_in l E x 33 126) (va_cwS 3 hts gX10_append_X10_in rfl rfl rfl (by decide +kernel) ⟨Nat.le_of_ble_eq_true rfl, Nat.le_of_ble_eq_true rfl⟩) ⟨zPr.blind, z_prer hK zP_nil⟩ rfl rfl hl.1 rfl (lv_room (Nat.le_of_ble_eq_true rfl)) dX10_append_6 ⟨Nat.le_of_ble_eq_true rfl, Nat.le_of_ble_eq_true rfl⟩) ?_
  refine W.eq (g2 := F0 Mi 9 ls [.int (m_in x 33 126), .ref h0]) rfl ?_
  refine lv_if_ne (tgt := 16) hx hb dX10_append_9 (by decide) (fun _ => ?_) (fun h9 => absurd h9 ((by rw [hok]; decide)))
  refine lv_aload_n hx hb dX10_append_16 rfl (lv_at hl 0 rfl) ?_
  refine va_get (D := E.1) (ci := 9) (v := .int ln) (C := RX10) (T := TX10) (N := 11) hx hb hts hi_X10 hown hK.1 hP 0 rfl rfl 5 (by decide) (hts (.fieldLink RX10 112 "AltimeterWatchModel" "length" "I") (by decide +kernel)) (fun _ h9 => h9) rfl dX10_append_17 ?_
  refine lv_bipush (v := 60) hx hb dX10_append_20 (by decide) ?_
  refine lv_icmp_ne (tgt := 29) hx hb dX10_append_22 (by decide) (fun h9 => absurd h9 ((fun h9 => h9 hln))) (fun _ => ?_)
  refine lv_iconst (v := 2) hx hb dX10_append_25 (by decide) ?_
  refine lv_goto (tgt := 30) hx hb dX10_append_26 (by decide) ?_
  have hPc : va_P E.1 vwCl ([[(h0, .inr (9, [.int th, .ref k1, .int sd, .ref k2, .ref k3, .int ln, .int at0, .int pt, .int mi, .int nu, .long ha]))]] : List va_W).flatten H := zf_sub hP [0] rfl
  have hDc : va_D A ([[(h0, .inr (9, [.int th, .ref k1, .int sd, .ref k2, .ref k3, .int ln, .int at0, .int pt, .int mi, .int nu, .long ha]))]] : List va_W).flatten := zf_subD hD [0] (by decide) rfl
  refine z_mut (Sc := [[(h0, .inr (9, [.int th, .ref k1, .int sd, .ref k2, .ref k3, .int ln, .int at0, .int pt, .int mi, .int nu, .long ha]))]]) (Sr := [[(k3, .inl (E.2 0, 60, .inl tx))]]) (W1 := [[(h0, .inr (9, [.int 2, .ref k1, .int sd, .ref k2, .ref k3, .int ln, .int at0, .int pt, .int mi, .int nu, .long ha]))]]) (va_runV (As := [.int 2]) (rest := []) ⟨hx, hb, hml, hown, hts⟩ (c_X10_holds l E h0 k1 k2 k3 th sd ln at0 pt mi nu ha 2 H.size) (cwV 1 hts gX10_append_X10_holds rfl rfl rfl (by decide +kernel) ⟨Nat.le_of_ble_eq_true rfl, Nat.le_of_ble_eq_true rfl⟩) ⟨zP.blind, va_recv hK.1 hPc (ci := 9) (q0 := 0) rfl rfl, z_pre hK hPc hDc⟩ rfl rfl hl.1 rfl (lv_room (Nat.le_of_ble_eq_true rfl)) dX10_append_30 ⟨Nat.le_of_ble_eq_true rfl, Nat.le_of_ble_eq_true rfl⟩) hP hD hS hA [0] [1] rfl rfl (by decide) (by decide) (fun H locs hP hD hS => ?_)
  have hP : va_P E.1 vwCl ([[(k3, .inl (E.2 0, 60, .inl tx))], [(h0, .inr (9, [.int 2, .ref k1, .int sd, .ref k2, .ref k3, .int ln, .int at0, .int pt, .int mi, .int nu, .long ha]))]] : List va_W).flatten H := hP
  have hD : va_D A ([[(k3, .inl (E.2 0, 60, .inl tx))], [(h0, .inr (9, [.int 2, .ref k1, .int sd, .ref k2, .ref k3, .int ln, .int at0, .int pt, .int mi, .int nu, .long ha]))]] : List va_W).flatten := hD
  refine W.eq (g2 := F0 Mi 33 ls [.int (m_z01 2)]) rfl ?_
  refine lv_if_ne (tgt := 38) hx hb dX10_append_33 (by decide) (fun h9 => absurd h9 ((by decide))) (fun _ => ?_)
  refine lv_iconst (v := 0) hx hb dX10_append_36 (by decide) ?_
  have hP : va_P E.1 vwCl ([[(h0, .inr (9, [.int 2, .ref k1, .int sd, .ref k2, .ref k3, .int ln, .int at0, .int pt, .int mi, .int nu, .long ha]))], [(k3, .inl (E.2 0, 60, .inl tx))]] : List va_W).flatten H := zf_sub hP [1, 0] rfl
  have hD : va_D A ([[(h0, .inr (9, [.int 2, .ref k1, .int sd, .ref k2, .ref k3, .int ln, .int at0, .int pt, .int mi, .int nu, .long ha]))], [(k3, .inl (E.2 0, 60, .inl tx))]] : List va_W).flatten := zf_subD hD [1, 0] (by decide) rfl
  exact W.iret (v := 0) hx hb hr (z_end hP hD hS rfl) hS.2.2 dX10_append_37 hlocks

set_option maxHeartbeats 4000000 in
set_option maxRecDepth 100000 in
theorem c_X10_append_y (l : Launch) (E : zE) (h0 k1 k2 k3 : Nat) (th sd ln at0 pt mi nu : Int32) (ha : Int64) (tx : Nat → Int32) (x : Int32) (hok : m_in x 33 126 = 1) (n : Nat) (hln : ln = nI n) (hn : n < 60) : zM l yX10_append wsX10_append ({ frames := 1, cells := 0, slots := 0, locals := 22 }) E [.ref h0, .int x] ([[(h0, .inr (9, [.int th, .ref k1, .int sd, .ref k2, .ref k3, .int ln, .int at0, .int pt, .int mi, .int nu, .long ha]))], [(k3, .inl (E.2 0, 60, .inl tx))]] : List va_W).flatten (some (.int (ln + 1))) ([[(h0, .inr (9, [.int 0, .ref k1, .int sd, .ref k2, .ref k3, .int (ln + 1), .int at0, .int pt, .int mi, .int nu, .long ha]))], [(k3, .inl (E.2 0, 60, .inl (upd tx n x)))]] : List va_W).flatten 0 0 := by
  refine z_start (cc := cX10_append) (maxL := 2) (ret := (some .int)) (by decide) rfl (Nat.le_of_ble_eq_true rfl) ?_
  intro Pg En s Mi below meth Cd A hx hb hr hts hown hlocks hin hml hA H hH hP hK hD hS ls hl
  have hl : lv_has ls 2 [(0, .ref h0), (1, .int x)] := hl
  have hi_X10 : ∀ w ∈ wsX100, w ∈ wsX10_append := by decide +kernel
  refine lv_aload_n hx hb dX10_append_0 rfl (lv_at hl 0 rfl) ?_
  refine lv_iload_n hx hb dX10_append_1 rfl (lv_at hl 1 rfl) ?_
  refine lv_bipush (v := 33) hx hb dX10_append_2 (by decide) ?_
  refine lv_bipush (v := 126) hx hb dX10_append_4 (by decide) ?_
  refine z_rdv (va_runS (As := [.int x, .int 33, .int 126]) (rest := [.ref h0]) ⟨hx, hb, hml, hown, hts⟩ (c_X10_in l E x 33 126) (va_cwS 3 hts gX10_append_X10_in rfl rfl rfl (by decide +kernel) ⟨Nat.le_of_ble_eq_true rfl, Nat.le_of_ble_eq_true rfl⟩) ⟨zPr.blind, z_prer hK zP_nil⟩ rfl rfl hl.1 rfl (lv_room (Nat.le_of_ble_eq_true rfl)) dX10_append_6 ⟨Nat.le_of_ble_eq_true rfl, Nat.le_of_ble_eq_true rfl⟩) ?_
  refine W.eq (g2 := F0 Mi 9 ls [.int (m_in x 33 126), .ref h0]) rfl ?_
  refine lv_if_ne (tgt := 16) hx hb dX10_append_9 (by decide) (fun _ => ?_) (fun h9 => absurd h9 ((by rw [hok]; decide)))
  refine lv_aload_n hx hb dX10_append_16 rfl (lv_at hl 0 rfl) ?_
  refine va_get (D := E.1) (ci := 9) (v := .int ln) (C := RX10) (T := TX10) (N := 11) hx hb hts hi_X10 hown hK.1 hP 0 rfl rfl 5 (by decide) (hts (.fieldLink RX10 112 "AltimeterWatchModel" "length" "I") (by decide +kernel)) (fun _ h9 => h9) rfl dX10_append_17 ?_
  refine lv_bipush (v := 60) hx hb dX10_append_20 (by decide) ?_
  refine lv_icmp_ne (tgt := 29) hx hb dX10_append_22 (by decide) (fun _ => ?_) (fun h9 => absurd h9 ((by rw [hln]; intro h9; have := nI_len (a := 60) (b := n) (by decide) (by omega) (by rw [h9]; decide); omega)))
  refine lv_iconst (v := 0) hx hb dX10_append_29 (by decide) ?_
  have hPc : va_P E.1 vwCl ([[(h0, .inr (9, [.int th, .ref k1, .int sd, .ref k2, .ref k3, .int ln, .int at0, .int pt, .int mi, .int nu, .long ha]))]] : List va_W).flatten H := zf_sub hP [0] rfl
  have hDc : va_D A ([[(h0, .inr (9, [.int th, .ref k1, .int sd, .ref k2, .ref k3, .int ln, .int at0, .int pt, .int mi, .int nu, .long ha]))]] : List va_W).flatten := zf_subD hD [0] (by decide) rfl
  refine z_mut (Sc := [[(h0, .inr (9, [.int th, .ref k1, .int sd, .ref k2, .ref k3, .int ln, .int at0, .int pt, .int mi, .int nu, .long ha]))]]) (Sr := [[(k3, .inl (E.2 0, 60, .inl tx))]]) (W1 := [[(h0, .inr (9, [.int 0, .ref k1, .int sd, .ref k2, .ref k3, .int ln, .int at0, .int pt, .int mi, .int nu, .long ha]))]]) (va_runV (As := [.int 0]) (rest := []) ⟨hx, hb, hml, hown, hts⟩ (c_X10_holds l E h0 k1 k2 k3 th sd ln at0 pt mi nu ha 0 H.size) (cwV 1 hts gX10_append_X10_holds rfl rfl rfl (by decide +kernel) ⟨Nat.le_of_ble_eq_true rfl, Nat.le_of_ble_eq_true rfl⟩) ⟨zP.blind, va_recv hK.1 hPc (ci := 9) (q0 := 0) rfl rfl, z_pre hK hPc hDc⟩ rfl rfl hl.1 rfl (lv_room (Nat.le_of_ble_eq_true rfl)) dX10_append_30 ⟨Nat.le_of_ble_eq_true rfl, Nat.le_of_ble_eq_true rfl⟩) hP hD hS hA [0] [1] rfl rfl (by decide) (by decide) (fun H locs hP hD hS => ?_)
  have hP : va_P E.1 vwCl ([[(k3, .inl (E.2 0, 60, .inl tx))], [(h0, .inr (9, [.int 0, .ref k1, .int sd, .ref k2, .ref k3, .int ln, .int at0, .int pt, .int mi, .int nu, .long ha]))]] : List va_W).flatten H := hP
  have hD : va_D A ([[(k3, .inl (E.2 0, 60, .inl tx))], [(h0, .inr (9, [.int 0, .ref k1, .int sd, .ref k2, .ref k3, .int ln, .int at0, .int pt, .int mi, .int nu, .long ha]))]] : List va_W).flatten := hD
  refine W.eq (g2 := F0 Mi 33 ls [.int (m_z01 0)]) rfl ?_
  refine lv_if_ne (tgt := 38) hx hb dX10_append_33 (by decide) (fun _ => ?_) (fun h9 => absurd h9 ((by decide)))
  refine lv_aload_n hx hb dX10_append_38 rfl (lv_at hl 0 rfl) ?_
  refine va_get (D := E.1) (ci := 9) (v := .ref k3) (C := RX10) (T := TX10) (N := 11) hx hb hts hi_X10 hown hK.1 hP 1 rfl rfl 4 (by decide) (hts (.fieldLink RX10 17 "AltimeterWatchModel" "text" "[I") (by decide +kernel)) (fun _ h9 => h9) rfl dX10_append_39 ?_
  refine lv_aload_n hx hb dX10_append_42 rfl (lv_at hl 0 rfl) ?_
  refine va_get (D := E.1) (ci := 9) (v := .int ln) (C := RX10) (T := TX10) (N := 11) hx hb hts hi_X10 hown hK.1 hP 1 rfl rfl 5 (by decide) (hts (.fieldLink RX10 112 "AltimeterWatchModel" "length" "I") (by decide +kernel)) (fun _ h9 => h9) rfl dX10_append_43 ?_
  refine lv_iload_n hx hb dX10_append_46 rfl (lv_at hl 1 rfl) ?_
  refine z_iast (k := n) hx hb hK.1 hP hD hS 0 rfl hln (by omega) (by decide) dX10_append_47 (fun H locs hP hD hS => ?_)
  have hP : va_P E.1 vwCl ([[(k3, .inl (E.2 0, 60, .inl (upd tx n x)))], [(h0, .inr (9, [.int 0, .ref k1, .int sd, .ref k2, .ref k3, .int ln, .int at0, .int pt, .int mi, .int nu, .long ha]))]] : List va_W).flatten H := hP
  have hD : va_D A ([[(k3, .inl (E.2 0, 60, .inl (upd tx n x)))], [(h0, .inr (9, [.int 0, .ref k1, .int sd, .ref k2, .ref k3, .int ln, .int at0, .int pt, .int mi, .int nu, .long ha]))]] : List va_W).flatten := hD
  refine lv_aload_n hx hb dX10_append_48 rfl (lv_at hl 0 rfl) ?_
  refine lv_dup hx hb dX10_append_49 rfl ?_
  refine va_get (D := E.1) (ci := 9) (v := .int ln) (C := RX10) (T := TX10) (N := 11) hx hb hts hi_X10 hown hK.1 hP 1 rfl rfl 5 (by decide) (hts (.fieldLink RX10 112 "AltimeterWatchModel" "length" "I") (by decide +kernel)) (fun _ h9 => h9) rfl dX10_append_50 ?_
  refine lv_iconst (v := 1) hx hb dX10_append_53 (by decide) ?_
  refine lv_iadd hx hb dX10_append_54 ?_
  refine va_put (D := E.1) (ci := 9) (v := .int (ln + 1)) (ty := .int) (C := RX10) (T := TX10) (N := 11) hx hb hts hi_X10 tyX10 tyX10_ok nmX10 hown hK.1 hP hD hS 1 rfl rfl 5 (by decide) (hts (.fieldLink RX10 112 "AltimeterWatchModel" "length" "I") (by decide +kernel)) (fun _ h9 => h9) rfl (by decide +kernel) rfl rfl (Nat.le_of_ble_eq_true rfl) dX10_append_55 (fun H locs hP hD hS => ?_)
  have hP : va_P E.1 vwCl ([[(k3, .inl (E.2 0, 60, .inl (upd tx n x)))], [(h0, .inr (9, [.int 0, .ref k1, .int sd, .ref k2, .ref k3, .int (ln + 1), .int at0, .int pt, .int mi, .int nu, .long ha]))]] : List va_W).flatten H := hP
  have hD : va_D A ([[(k3, .inl (E.2 0, 60, .inl (upd tx n x)))], [(h0, .inr (9, [.int 0, .ref k1, .int sd, .ref k2, .ref k3, .int (ln + 1), .int at0, .int pt, .int mi, .int nu, .long ha]))]] : List va_W).flatten := hD
  refine lv_aload_n hx hb dX10_append_58 rfl (lv_at hl 0 rfl) ?_
  refine va_get (D := E.1) (ci := 9) (v := .int (ln + 1)) (C := RX10) (T := TX10) (N := 11) hx hb hts hi_X10 hown hK.1 hP 1 rfl rfl 5 (by decide) (hts (.fieldLink RX10 112 "AltimeterWatchModel" "length" "I") (by decide +kernel)) (fun _ h9 => h9) rfl dX10_append_59 ?_
  have hP : va_P E.1 vwCl ([[(h0, .inr (9, [.int 0, .ref k1, .int sd, .ref k2, .ref k3, .int (ln + 1), .int at0, .int pt, .int mi, .int nu, .long ha]))], [(k3, .inl (E.2 0, 60, .inl (upd tx n x)))]] : List va_W).flatten H := zf_sub hP [1, 0] rfl
  have hD : va_D A ([[(h0, .inr (9, [.int 0, .ref k1, .int sd, .ref k2, .ref k3, .int (ln + 1), .int at0, .int pt, .int mi, .int nu, .long ha]))], [(k3, .inl (E.2 0, 60, .inl (upd tx n x)))]] : List va_W).flatten := zf_subD hD [1, 0] (by decide) rfl
  exact W.iret (v := (ln + 1)) hx hb hr (z_end hP hD hS rfl) hS.2.2 dX10_append_62 hlocks

set_option maxHeartbeats 4000000 in
set_option maxRecDepth 100000 in
theorem c_X10_undo_n (l : Launch) (E : zE) (h0 k1 k2 k3 : Nat) (th sd ln at0 pt mi nu : Int32) (ha : Int64) (sv : Nat → Int32) (hsd : sd = 0) : zM l yX10_undo wsX10_undo ({ frames := 1, cells := 0, slots := 0, locals := 21 }) E [.ref h0] ([[(h0, .inr (9, [.int th, .ref k1, .int sd, .ref k2, .ref k3, .int ln, .int at0, .int pt, .int mi, .int nu, .long ha]))], [(k1, .inl (E.2 0, 1160, .inl sv))]] : List va_W).flatten (some (.int 0)) ([[(h0, .inr (9, [.int 1, .ref k1, .int sd, .ref k2, .ref k3, .int ln, .int at0, .int pt, .int mi, .int nu, .long ha]))], [(k1, .inl (E.2 0, 1160, .inl sv))]] : List va_W).flatten 0 0 := by
  refine z_start (cc := cX10_undo) (maxL := 1) (ret := (some .int)) (by decide) rfl (Nat.le_of_ble_eq_true rfl) ?_
  intro Pg En s Mi below meth Cd A hx hb hr hts hown hlocks hin hml hA H hH hP hK hD hS ls hl
  have hl : lv_has ls 1 [(0, .ref h0)] := hl
  have hi_X10 : ∀ w ∈ wsX100, w ∈ wsX10_undo := by decide +kernel
  refine lv_aload_n hx hb dX10_undo_0 rfl (lv_at hl 0 rfl) ?_
  refine lv_aload_n hx hb dX10_undo_1 rfl (lv_at hl 0 rfl) ?_
  refine va_get (D := E.1) (ci := 9) (v := .int sd) (C := RX10) (T := TX10) (N := 11) hx hb hts hi_X10 hown hK.1 hP 0 rfl rfl 2 (by decide) (hts (.fieldLink RX10 58 "AltimeterWatchModel" "saved" "I") (by decide +kernel)) (fun _ h9 => h9) rfl dX10_undo_2 ?_
  refine lv_if_le (tgt := 12) hx hb dX10_undo_5 (by decide) (fun _ => ?_) (fun h9 => absurd ((by rw [hsd]; decide)) h9)
  refine lv_iconst (v := 1) hx hb dX10_undo_12 (by decide) ?_
  have hPc : va_P E.1 vwCl ([[(h0, .inr (9, [.int th, .ref k1, .int sd, .ref k2, .ref k3, .int ln, .int at0, .int pt, .int mi, .int nu, .long ha]))]] : List va_W).flatten H := zf_sub hP [0] rfl
  have hDc : va_D A ([[(h0, .inr (9, [.int th, .ref k1, .int sd, .ref k2, .ref k3, .int ln, .int at0, .int pt, .int mi, .int nu, .long ha]))]] : List va_W).flatten := zf_subD hD [0] (by decide) rfl
  refine z_mut (Sc := [[(h0, .inr (9, [.int th, .ref k1, .int sd, .ref k2, .ref k3, .int ln, .int at0, .int pt, .int mi, .int nu, .long ha]))]]) (Sr := [[(k1, .inl (E.2 0, 1160, .inl sv))]]) (W1 := [[(h0, .inr (9, [.int 1, .ref k1, .int sd, .ref k2, .ref k3, .int ln, .int at0, .int pt, .int mi, .int nu, .long ha]))]]) (va_runV (As := [.int 1]) (rest := []) ⟨hx, hb, hml, hown, hts⟩ (c_X10_holds l E h0 k1 k2 k3 th sd ln at0 pt mi nu ha 1 H.size) (cwV 1 hts gX10_undo_X10_holds rfl rfl rfl (by decide +kernel) ⟨Nat.le_of_ble_eq_true rfl, Nat.le_of_ble_eq_true rfl⟩) ⟨zP.blind, va_recv hK.1 hPc (ci := 9) (q0 := 0) rfl rfl, z_pre hK hPc hDc⟩ rfl rfl hl.1 rfl (lv_room (Nat.le_of_ble_eq_true rfl)) dX10_undo_13 ⟨Nat.le_of_ble_eq_true rfl, Nat.le_of_ble_eq_true rfl⟩) hP hD hS hA [0] [1] rfl rfl (by decide) (by decide) (fun H locs hP hD hS => ?_)
  have hP : va_P E.1 vwCl ([[(k1, .inl (E.2 0, 1160, .inl sv))], [(h0, .inr (9, [.int 1, .ref k1, .int sd, .ref k2, .ref k3, .int ln, .int at0, .int pt, .int mi, .int nu, .long ha]))]] : List va_W).flatten H := hP
  have hD : va_D A ([[(k1, .inl (E.2 0, 1160, .inl sv))], [(h0, .inr (9, [.int 1, .ref k1, .int sd, .ref k2, .ref k3, .int ln, .int at0, .int pt, .int mi, .int nu, .long ha]))]] : List va_W).flatten := hD
  refine W.eq (g2 := F0 Mi 16 ls [.int (m_z01 1)]) rfl ?_
  refine lv_if_ne (tgt := 21) hx hb dX10_undo_16 (by decide) (fun h9 => absurd h9 ((by decide))) (fun _ => ?_)
  refine lv_iconst (v := 0) hx hb dX10_undo_19 (by decide) ?_
  have hP : va_P E.1 vwCl ([[(h0, .inr (9, [.int 1, .ref k1, .int sd, .ref k2, .ref k3, .int ln, .int at0, .int pt, .int mi, .int nu, .long ha]))], [(k1, .inl (E.2 0, 1160, .inl sv))]] : List va_W).flatten H := zf_sub hP [1, 0] rfl
  have hD : va_D A ([[(h0, .inr (9, [.int 1, .ref k1, .int sd, .ref k2, .ref k3, .int ln, .int at0, .int pt, .int mi, .int nu, .long ha]))], [(k1, .inl (E.2 0, 1160, .inl sv))]] : List va_W).flatten := zf_subD hD [1, 0] (by decide) rfl
  exact W.iret (v := 0) hx hb hr (z_end hP hD hS rfl) hS.2.2 dX10_undo_20 hlocks

set_option maxHeartbeats 4000000 in
set_option maxRecDepth 100000 in
theorem c_X10_undo_y (l : Launch) (E : zE) (h0 k1 k2 k3 : Nat) (th sd ln at0 pt mi nu : Int32) (ha : Int64) (sv : Nat → Int32) (d : Nat) (hsd : sd = nI d) (hd1 : 1 ≤ d) (hd : d ≤ 6) : zM l yX10_undo wsX10_undo ({ frames := 1, cells := 0, slots := 0, locals := 23 }) E [.ref h0] ([[(h0, .inr (9, [.int th, .ref k1, .int sd, .ref k2, .ref k3, .int ln, .int at0, .int pt, .int mi, .int nu, .long ha]))], [(k1, .inl (E.2 0, 1160, .inl sv))]] : List va_W).flatten (some (.int (nI (d - 1)))) ([[(h0, .inr (9, [.int 0, .ref k1, .int (nI (d - 1)), .ref k2, .ref k3, .int ln, .int at0, .int pt, .int mi, .int nu, .long ha]))], [(k1, .inl (E.2 0, 1160, .inl (m_cpA sv d 0 116)))]] : List va_W).flatten 0 0 := by
  refine z_start (cc := cX10_undo) (maxL := 1) (ret := (some .int)) (by decide) rfl (Nat.le_of_ble_eq_true rfl) ?_
  intro Pg En s Mi below meth Cd A hx hb hr hts hown hlocks hin hml hA H hH hP hK hD hS ls hl
  have hl : lv_has ls 1 [(0, .ref h0)] := hl
  have hi_X10 : ∀ w ∈ wsX100, w ∈ wsX10_undo := by decide +kernel
  refine lv_aload_n hx hb dX10_undo_0 rfl (lv_at hl 0 rfl) ?_
  refine lv_aload_n hx hb dX10_undo_1 rfl (lv_at hl 0 rfl) ?_
  refine va_get (D := E.1) (ci := 9) (v := .int sd) (C := RX10) (T := TX10) (N := 11) hx hb hts hi_X10 hown hK.1 hP 0 rfl rfl 2 (by decide) (hts (.fieldLink RX10 58 "AltimeterWatchModel" "saved" "I") (by decide +kernel)) (fun _ h9 => h9) rfl dX10_undo_2 ?_
  refine lv_if_le (tgt := 12) hx hb dX10_undo_5 (by decide) (fun h9 => absurd h9 ((by rw [hsd]; exact Int32.not_le.mpr (nI_lt (a := 0) (b := d) (by omega) (by omega))))) (fun _ => ?_)
  refine lv_iconst (v := 0) hx hb dX10_undo_8 (by decide) ?_
  refine lv_goto (tgt := 13) hx hb dX10_undo_9 (by decide) ?_
  have hPc : va_P E.1 vwCl ([[(h0, .inr (9, [.int th, .ref k1, .int sd, .ref k2, .ref k3, .int ln, .int at0, .int pt, .int mi, .int nu, .long ha]))]] : List va_W).flatten H := zf_sub hP [0] rfl
  have hDc : va_D A ([[(h0, .inr (9, [.int th, .ref k1, .int sd, .ref k2, .ref k3, .int ln, .int at0, .int pt, .int mi, .int nu, .long ha]))]] : List va_W).flatten := zf_subD hD [0] (by decide) rfl
  refine z_mut (Sc := [[(h0, .inr (9, [.int th, .ref k1, .int sd, .ref k2, .ref k3, .int ln, .int at0, .int pt, .int mi, .int nu, .long ha]))]]) (Sr := [[(k1, .inl (E.2 0, 1160, .inl sv))]]) (W1 := [[(h0, .inr (9, [.int 0, .ref k1, .int sd, .ref k2, .ref k3, .int ln, .int at0, .int pt, .int mi, .int nu, .long ha]))]]) (va_runV (As := [.int 0]) (rest := []) ⟨hx, hb, hml, hown, hts⟩ (c_X10_holds l E h0 k1 k2 k3 th sd ln at0 pt mi nu ha 0 H.size) (cwV 1 hts gX10_undo_X10_holds rfl rfl rfl (by decide +kernel) ⟨Nat.le_of_ble_eq_true rfl, Nat.le_of_ble_eq_true rfl⟩) ⟨zP.blind, va_recv hK.1 hPc (ci := 9) (q0 := 0) rfl rfl, z_pre hK hPc hDc⟩ rfl rfl hl.1 rfl (lv_room (Nat.le_of_ble_eq_true rfl)) dX10_undo_13 ⟨Nat.le_of_ble_eq_true rfl, Nat.le_of_ble_eq_true rfl⟩) hP hD hS hA [0] [1] rfl rfl (by decide) (by decide) (fun H locs hP hD hS => ?_)
  have hP : va_P E.1 vwCl ([[(k1, .inl (E.2 0, 1160, .inl sv))], [(h0, .inr (9, [.int 0, .ref k1, .int sd, .ref k2, .ref k3, .int ln, .int at0, .int pt, .int mi, .int nu, .long ha]))]] : List va_W).flatten H := hP
  have hD : va_D A ([[(k1, .inl (E.2 0, 1160, .inl sv))], [(h0, .inr (9, [.int 0, .ref k1, .int sd, .ref k2, .ref k3, .int ln, .int at0, .int pt, .int mi, .int nu, .long ha]))]] : List va_W).flatten := hD
  refine W.eq (g2 := F0 Mi 16 ls [.int (m_z01 0)]) rfl ?_
  refine lv_if_ne (tgt := 21) hx hb dX10_undo_16 (by decide) (fun _ => ?_) (fun h9 => absurd h9 ((by decide)))
  refine lv_aload_n hx hb dX10_undo_21 rfl (lv_at hl 0 rfl) ?_
  refine lv_aload_n hx hb dX10_undo_22 rfl (lv_at hl 0 rfl) ?_
  refine va_get (D := E.1) (ci := 9) (v := .int sd) (C := RX10) (T := TX10) (N := 11) hx hb hts hi_X10 hown hK.1 hP 1 rfl rfl 2 (by decide) (hts (.fieldLink RX10 58 "AltimeterWatchModel" "saved" "I") (by decide +kernel)) (fun _ h9 => h9) rfl dX10_undo_23 ?_
  refine lv_iconst (v := 0) hx hb dX10_undo_26 (by decide) ?_
  have hPc : va_P E.1 vwCl ([[(h0, .inr (9, [.int 0, .ref k1, .int sd, .ref k2, .ref k3, .int ln, .int at0, .int pt, .int mi, .int nu, .long ha]))], [(k1, .inl (E.2 0, 1160, .inl sv))]] : List va_W).flatten H := zf_sub hP [1, 0] rfl
  have hDc : va_D A ([[(h0, .inr (9, [.int 0, .ref k1, .int sd, .ref k2, .ref k3, .int ln, .int at0, .int pt, .int mi, .int nu, .long ha]))], [(k1, .inl (E.2 0, 1160, .inl sv))]] : List va_W).flatten := zf_subD hD [1, 0] (by decide) rfl
  refine z_mut (Sc := [[(h0, .inr (9, [.int 0, .ref k1, .int sd, .ref k2, .ref k3, .int ln, .int at0, .int pt, .int mi, .int nu, .long ha]))], [(k1, .inl (E.2 0, 1160, .inl sv))]]) (Sr := []) (W1 := [[(h0, .inr (9, [.int 0, .ref k1, .int sd, .ref k2, .ref k3, .int ln, .int at0, .int pt, .int mi, .int nu, .long ha]))], [(k1, .inl (E.2 0, 1160, .inl (m_cpA sv d 0 116)))]]) (va_runV (As := [.int sd, .int 0]) (rest := []) ⟨hx, hb, hml, hown, hts⟩ (c_X10_copies l E h0 k1 k2 k3 0 sd ln at0 pt mi nu ha sd 0 d 0 hsd rfl (by omega) (by omega) sv H.size) (cwV 2 hts gX10_undo_X10_copies rfl rfl rfl (by decide +kernel) ⟨Nat.le_of_ble_eq_true rfl, Nat.le_of_ble_eq_true rfl⟩) ⟨zP.blind, va_recv hK.1 hPc (ci := 9) (q0 := 0) rfl rfl, z_pre hK hPc hDc⟩ rfl rfl hl.1 rfl (lv_room (Nat.le_of_ble_eq_true rfl)) dX10_undo_27 ⟨Nat.le_of_ble_eq_true rfl, Nat.le_of_ble_eq_true rfl⟩) hP hD hS hA [1, 0] [] rfl rfl (by decide) (by decide) (fun H locs hP hD hS => ?_)
  have hP : va_P E.1 vwCl ([[(h0, .inr (9, [.int 0, .ref k1, .int sd, .ref k2, .ref k3, .int ln, .int at0, .int pt, .int mi, .int nu, .long ha]))], [(k1, .inl (E.2 0, 1160, .inl (m_cpA sv d 0 116)))]] : List va_W).flatten H := hP
  have hD : va_D A ([[(h0, .inr (9, [.int 0, .ref k1, .int sd, .ref k2, .ref k3, .int ln, .int at0, .int pt, .int mi, .int nu, .long ha]))], [(k1, .inl (E.2 0, 1160, .inl (m_cpA sv d 0 116)))]] : List va_W).flatten := hD
  refine W.eq (g2 := F0 Mi 30 ls []) rfl ?_
  refine lv_aload_n hx hb dX10_undo_30 rfl (lv_at hl 0 rfl) ?_
  refine lv_dup hx hb dX10_undo_31 rfl ?_
  refine va_get (D := E.1) (ci := 9) (v := .int sd) (C := RX10) (T := TX10) (N := 11) hx hb hts hi_X10 hown hK.1 hP 0 rfl rfl 2 (by decide) (hts (.fieldLink RX10 58 "AltimeterWatchModel" "saved" "I") (by decide +kernel)) (fun _ h9 => h9) rfl dX10_undo_32 ?_
  refine lv_iconst (v := 1) hx hb dX10_undo_35 (by decide) ?_
  refine lv_isub hx hb dX10_undo_36 ?_
  refine z_topi (y := (nI (d - 1))) (by rw [hsd]; exact pk_sub (a := d) (b := 1) hd1) ?_
  refine va_put (D := E.1) (ci := 9) (v := .int (nI (d - 1))) (ty := .int) (C := RX10) (T := TX10) (N := 11) hx hb hts hi_X10 tyX10 tyX10_ok nmX10 hown hK.1 hP hD hS 0 rfl rfl 2 (by decide) (hts (.fieldLink RX10 58 "AltimeterWatchModel" "saved" "I") (by decide +kernel)) (fun _ h9 => h9) rfl (by decide +kernel) rfl rfl (Nat.le_of_ble_eq_true rfl) dX10_undo_37 (fun H locs hP hD hS => ?_)
  have hP : va_P E.1 vwCl ([[(h0, .inr (9, [.int 0, .ref k1, .int (nI (d - 1)), .ref k2, .ref k3, .int ln, .int at0, .int pt, .int mi, .int nu, .long ha]))], [(k1, .inl (E.2 0, 1160, .inl (m_cpA sv d 0 116)))]] : List va_W).flatten H := hP
  have hD : va_D A ([[(h0, .inr (9, [.int 0, .ref k1, .int (nI (d - 1)), .ref k2, .ref k3, .int ln, .int at0, .int pt, .int mi, .int nu, .long ha]))], [(k1, .inl (E.2 0, 1160, .inl (m_cpA sv d 0 116)))]] : List va_W).flatten := hD
  refine lv_aload_n hx hb dX10_undo_40 rfl (lv_at hl 0 rfl) ?_
  refine va_get (D := E.1) (ci := 9) (v := .int (nI (d - 1))) (C := RX10) (T := TX10) (N := 11) hx hb hts hi_X10 hown hK.1 hP 0 rfl rfl 2 (by decide) (hts (.fieldLink RX10 58 "AltimeterWatchModel" "saved" "I") (by decide +kernel)) (fun _ h9 => h9) rfl dX10_undo_41 ?_
  have hP : va_P E.1 vwCl ([[(h0, .inr (9, [.int 0, .ref k1, .int (nI (d - 1)), .ref k2, .ref k3, .int ln, .int at0, .int pt, .int mi, .int nu, .long ha]))], [(k1, .inl (E.2 0, 1160, .inl (m_cpA sv d 0 116)))]] : List va_W).flatten H := zf_sub hP [0, 1] rfl
  have hD : va_D A ([[(h0, .inr (9, [.int 0, .ref k1, .int (nI (d - 1)), .ref k2, .ref k3, .int ln, .int at0, .int pt, .int mi, .int nu, .long ha]))], [(k1, .inl (E.2 0, 1160, .inl (m_cpA sv d 0 116)))]] : List va_W).flatten := zf_subD hD [0, 1] (by decide) rfl
  exact W.iret (v := (nI (d - 1))) hx hb hr (z_end hP hD hS rfl) hS.2.2 dX10_undo_44 hlocks

set_option maxHeartbeats 4000000 in
set_option maxRecDepth 100000 in
theorem c_X10_mix (l : Launch) (E : zE) (h0 k1 k2 k3 : Nat) (th sd ln at0 pt mi nu : Int32) (ha : Int64) (v : Int64) : zM l yX10_mix wsX10_mix ({ frames := 0, cells := 0, slots := 0, locals := 0 }) E [.ref h0, .long v] ([[(h0, .inr (9, [.int th, .ref k1, .int sd, .ref k2, .ref k3, .int ln, .int at0, .int pt, .int mi, .int nu, .long ha]))]] : List va_W).flatten none ([[(h0, .inr (9, [.int th, .ref k1, .int sd, .ref k2, .ref k3, .int ln, .int at0, .int pt, .int mi, .int nu, .long (31 * ha + v)]))]] : List va_W).flatten 0 0 := by
  refine z_start (cc := cX10_mix) (maxL := 3) (ret := none) (by decide) rfl (Nat.le_of_ble_eq_true rfl) ?_
  intro Pg En s Mi below meth Cd A hx hb hr hts hown hlocks hin hml hA H hH hP hK hD hS ls hl
  have hl : lv_has ls 3 [(0, .ref h0), (1, .long v)] := hl
  have hi_X10 : ∀ w ∈ wsX100, w ∈ wsX10_mix := by decide +kernel
  refine lv_aload_n hx hb dX10_mix_0 rfl (lv_at hl 0 rfl) ?_
  refine lv_ldc2 hx hb hown (hts (.constantLong RX10 149 (31)) (by decide +kernel)) dX10_mix_1 ?_
  refine lv_aload_n hx hb dX10_mix_4 rfl (lv_at hl 0 rfl) ?_
  refine va_get (D := E.1) (ci := 9) (v := .long ha) (C := RX10) (T := TX10) (N := 11) hx hb hts hi_X10 hown hK.1 hP 0 rfl rfl 10 (by decide) (hts (.fieldLink RX10 151 "AltimeterWatchModel" "hash" "J") (by decide +kernel)) (fun _ h9 => h9) rfl dX10_mix_5 ?_
  refine lv_lmul hx hb dX10_mix_8 ?_
  refine lv_lload_n hx hb dX10_mix_9 rfl (lv_at hl 1 rfl) ?_
  refine lv_ladd hx hb dX10_mix_10 ?_
  refine va_put (D := E.1) (ci := 9) (v := .long ((31 * ha) + v)) (ty := .long) (C := RX10) (T := TX10) (N := 11) hx hb hts hi_X10 tyX10 tyX10_ok nmX10 hown hK.1 hP hD hS 0 rfl rfl 10 (by decide) (hts (.fieldLink RX10 151 "AltimeterWatchModel" "hash" "J") (by decide +kernel)) (fun _ h9 => h9) rfl (by decide +kernel) rfl rfl (Nat.le_of_ble_eq_true rfl) dX10_mix_11 (fun H locs hP hD hS => ?_)
  have hP : va_P E.1 vwCl ([[(h0, .inr (9, [.int th, .ref k1, .int sd, .ref k2, .ref k3, .int ln, .int at0, .int pt, .int mi, .int nu, .long ((31 * ha) + v)]))]] : List va_W).flatten H := hP
  have hD : va_D A ([[(h0, .inr (9, [.int th, .ref k1, .int sd, .ref k2, .ref k3, .int ln, .int at0, .int pt, .int mi, .int nu, .long ((31 * ha) + v)]))]] : List va_W).flatten := hD
  have hP : va_P E.1 vwCl ([[(h0, .inr (9, [.int th, .ref k1, .int sd, .ref k2, .ref k3, .int ln, .int at0, .int pt, .int mi, .int nu, .long ((31 * ha) + v)]))]] : List va_W).flatten H := zf_sub hP [0] rfl
  have hD : va_D A ([[(h0, .inr (9, [.int th, .ref k1, .int sd, .ref k2, .ref k3, .int ln, .int at0, .int pt, .int mi, .int nu, .long ((31 * ha) + v)]))]] : List va_W).flatten := zf_subD hD [0] (by decide) rfl
  exact W.vret hx hb hr (z_end hP hD hS rfl) hS.2.2 dX10_mix_14 hlocks
