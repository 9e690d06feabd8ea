/-! the reference reads a text: i is the place, n the length -/
def m_sgM (tx : Nat → Int32) (n i : Nat) : Int32 := if i < n then tx i else 0
def m_tkM (tx : Nat → Int32) (n i : Nat) (x : Int32) : Int32 := if m_sgM tx n i = x then 1 else 0
theorem m_tkM01 (tx : Nat → Int32) (n i : Nat) (x : Int32) : m_tkM tx n i x = 0 ∨ m_tkM tx n i x = 1 := by
  unfold m_tkM
  split
  · exact Or.inr rfl
  · exact Or.inl rfl
def m_tkN (tx : Nat → Int32) (n i : Nat) (x : Int32) : Nat := if m_sgM tx n i = x then i + 1 else i

set_option maxHeartbeats 4000000 in
set_option maxRecDepth 100000 in
theorem c_X10_sign (l : Launch) (E : zE) (h0 k1 k2 k3 : Nat) (th sd ln at0 pt mi nu : Int32) (ha : Int64) (tx : Nat → Int32) (n i : Nat) (hln : ln = nI n) (hn : n ≤ 60) (hat : at0 = nI i) (hi : i ≤ n) : zR l yX10_sign wsX10_sign ({ frames := 0, cells := 0, slots := 0, locals := 0 }) E [.ref h0] ([[(h0, .inr (9, [.int th, .ref k1, .int sd, .ref k2, .ref k3, .int ln, .int at0, .int pt, .int mi, .int nu, .long ha]))], [(k3, .inl (E.2 0, 60, .inl tx))]] : List va_W).flatten (some (.int (m_sgM tx n i))) := by
  refine z_startr (cc := cX10_sign) (maxL := 1) (ret := (some .int)) (by decide) rfl (Nat.le_of_ble_eq_true rfl) ?_
  intro Pg En s Mi below meth Cd hx hb hr hts hown hlocks hml hP hK ls hl
  have hl : lv_has ls 1 [(0, .ref h0)] := hl
  have hi_X10 : ∀ w ∈ wsX100, w ∈ wsX10_sign := by decide +kernel
  refine lv_aload_n hx hb dX10_sign_0 rfl (lv_at hl 0 rfl) ?_
  refine va_get (D := E.1) (ci := 9) (v := .int at0) (C := RX10) (T := TX10) (N := 11) hx hb hts hi_X10 hown hK.1 hP 0 rfl rfl 6 (by decide) (hts (.fieldLink RX10 115 "AltimeterWatchModel" "at" "I") (by decide +kernel)) (fun _ h9 => h9) rfl dX10_sign_1 ?_
  refine lv_aload_n hx hb dX10_sign_4 rfl (lv_at hl 0 rfl) ?_
  refine va_get (D := E.1) (ci := 9) (v := .int ln) (C := RX10) (T := TX10) (N := 11) hx hb hts hi_X10 hown hK.1 hP 0 rfl rfl 5 (by decide) (hts (.fieldLink RX10 112 "AltimeterWatchModel" "length" "I") (by decide +kernel)) (fun _ h9 => h9) rfl dX10_sign_5 ?_
  refine lv_icmp_ge (tgt := 23) hx hb dX10_sign_8 (by decide) (fun c_8 => ?_) (fun c_8 => ?_)
  · refine lv_iconst (v := 0) hx hb dX10_sign_23 (by decide) ?_
    refine z_topi (y := m_sgM tx n i) (by rw [m_sgM, if_neg (by have := nI_len (a := n) (b := i) (by omega) (by omega) (by rw [← hat, ← hln]; exact c_8); omega)]) ?_
    exact W.iret (v := m_sgM tx n i) hx hb hr z_endR (fun _ h => by cases h) dX10_sign_24 hlocks
  · have hlt : i < n := nI_nlen (by omega) (by omega) (by rw [← hat, ← hln]; exact c_8)
    refine lv_aload_n hx hb dX10_sign_11 rfl (lv_at hl 0 rfl) ?_
    refine va_get (D := E.1) (ci := 9) (v := .ref k3) (C := RX10) (T := TX10) (N := 11) hx hb hts hi_X10 hown hK.1 hP 0 rfl rfl 4 (by decide) (hts (.fieldLink RX10 17 "AltimeterWatchModel" "text" "[I") (by decide +kernel)) (fun _ h9 => h9) rfl dX10_sign_12 ?_
    refine lv_aload_n hx hb dX10_sign_15 rfl (lv_at hl 0 rfl) ?_
    refine va_get (D := E.1) (ci := 9) (v := .int at0) (C := RX10) (T := TX10) (N := 11) hx hb hts hi_X10 hown hK.1 hP 0 rfl rfl 6 (by decide) (hts (.fieldLink RX10 115 "AltimeterWatchModel" "at" "I") (by decide +kernel)) (fun _ h9 => h9) rfl dX10_sign_16 ?_
    refine z_iald (k := i) hx hb hK.1 hP 1 rfl hat (by omega) (by decide) dX10_sign_19 ?_
    refine lv_goto (tgt := 24) hx hb dX10_sign_20 (by decide) ?_
    refine z_topi (y := m_sgM tx n i) (by rw [m_sgM, if_pos hlt]) ?_
    exact W.iret (v := m_sgM tx n i) hx hb hr z_endR (fun _ h => by cases h) dX10_sign_24 hlocks

set_option maxHeartbeats 4000000 in
set_option maxRecDepth 100000 in
theorem c_X10_takes (l : Launch) (E : zE) (h0 k1 k2 k3 : Nat) (th sd ln at0 pt mi nu : Int32) (ha : Int64) (tx : Nat → Int32) (n i : Nat) (hln : ln = nI n) (hn : n ≤ 60) (hat : at0 = nI i) (hi : i ≤ n) (x : Int32) : zM l yX10_takes wsX10_takes ({ frames := 1, cells := 0, slots := 0, locals := 20 }) E [.ref h0, .int x] ([[(h0, .inr (9, [.int th, .ref k1, .int sd, .ref k2, .ref k3, .int ln, .int at0, .int pt, .int mi, .int nu, .long ha]))], [(k3, .inl (E.2 0, 60, .inl tx))]] : List va_W).flatten (some (.int (m_tkM tx n i x))) ([[(h0, .inr (9, [.int th, .ref k1, .int sd, .ref k2, .ref k3, .int ln, .int (nI (m_tkN tx n i x)), .int pt, .int mi, .int nu, .long ha]))], [(k3, .inl (E.2 0, 60, .inl tx))]] : List va_W).flatten 0 0 := by
  refine z_start (cc := cX10_takes) (maxL := 3) (ret := (some .boolean)) (by decide) rfl (Nat.le_of_ble_eq_true rfl) ?_
  intro Pg En s Mi below meth Cd A hx hb hr hts hown hlocks hin hml hA H hH hP hK hD hS ls hl
  have hl : lv_has ls 3 [(0, .ref h0), (1, .int x)] := hl
  have hi_X10 : ∀ w ∈ wsX100, w ∈ wsX10_takes := by decide +kernel
  refine lv_aload_n hx hb dX10_takes_0 rfl (lv_at hl 0 rfl) ?_
  have hPc : va_P E.1 vwCl ([[(h0, .inr (9, [.int th, .ref k1, .int sd, .ref k2, .ref k3, .int ln, .int at0, .int pt, .int mi, .int nu, .long ha]))], [(k3, .inl (E.2 0, 60, .inl tx))]] : List va_W).flatten H := zf_sub hP [0, 1] rfl
  refine z_rdv (va_runV (As := []) (rest := []) ⟨hx, hb, hml, hown, hts⟩ (c_X10_sign l E h0 k1 k2 k3 th sd ln at0 pt mi nu ha tx n i hln hn hat hi) (cwV 0 hts gX10_takes_X10_sign rfl rfl rfl (by decide +kernel) ⟨Nat.le_of_ble_eq_true rfl, Nat.le_of_ble_eq_true rfl⟩) ⟨zPr.blind, va_recv hK.1 hPc (ci := 9) (q0 := 0) rfl rfl, z_prer hK hPc⟩ rfl rfl hl.1 rfl (lv_room (Nat.le_of_ble_eq_true rfl)) dX10_takes_1 ⟨Nat.le_of_ble_eq_true rfl, Nat.le_of_ble_eq_true rfl⟩) ?_
  refine W.eq (g2 := F0 Mi 4 ls [.int (m_sgM tx n i)]) rfl ?_
  refine lv_iload_n hx hb dX10_takes_4 rfl (lv_at hl 1 rfl) ?_
  refine lv_icmp_ne (tgt := 12) hx hb dX10_takes_5 (by decide) (fun c_5 => ?_) (fun c_5 => ?_)
  · refine lv_iconst (v := 0) hx hb dX10_takes_12 (by decide) ?_
    refine lv_istore_n (lv' := [(2, .int 0), (0, .ref h0), (1, .int x)]) hx hb dX10_takes_13 rfl hl (by decide) rfl (fun ls hl => ?_)
    refine lv_aload_n hx hb dX10_takes_14 rfl (lv_at hl 1 rfl) ?_
    refine lv_dup hx hb dX10_takes_15 rfl ?_
    refine va_get (D := E.1) (ci := 9) (v := .int at0) (C := RX10) (T := TX10) (N := 11) hx hb hts hi_X10 hown hK.1 hP 0 rfl rfl 6 (by decide) (hts (.fieldLink RX10 115 "AltimeterWatchModel" "at" "I") (by decide +kernel)) (fun _ h9 => h9) rfl dX10_takes_16 ?_
    refine lv_iload_n hx hb dX10_takes_19 rfl (lv_at hl 0 rfl) ?_
    refine lv_if_eq (tgt := 27) hx hb dX10_takes_20 (by decide) (fun _ => ?_) (fun h9 => absurd ((by decide)) h9)
    refine lv_iconst (v := 0) hx hb dX10_takes_27 (by decide) ?_
    refine lv_iadd hx hb dX10_takes_28 ?_
    refine z_topi (y := (nI (m_tkN tx n i x))) (by rw [m_tkN, if_neg c_5, hat]; exact Int32.add_zero _) ?_
    refine va_put (D := E.1) (ci := 9) (v := .int (nI (m_tkN tx n i x))) (ty := .int) (C := RX10) (T := TX10) (N := 11) hx hb hts hi_X10 tyX10 tyX10_ok nmX10 hown hK.1 hP hD hS 0 rfl rfl 6 (by decide) (hts (.fieldLink RX10 115 "AltimeterWatchModel" "at" "I") (by decide +kernel)) (fun _ h9 => h9) rfl (by decide +kernel) rfl rfl (Nat.le_of_ble_eq_true rfl) dX10_takes_29 (fun H locs hP hD hS => ?_)
    have hP : va_P E.1 vwCl ([[(h0, .inr (9, [.int th, .ref k1, .int sd, .ref k2, .ref k3, .int ln, .int (nI (m_tkN tx n i x)), .int pt, .int mi, .int nu, .long ha]))], [(k3, .inl (E.2 0, 60, .inl tx))]] : List va_W).flatten H := hP
    have hD : va_D A ([[(h0, .inr (9, [.int th, .ref k1, .int sd, .ref k2, .ref k3, .int ln, .int (nI (m_tkN tx n i x)), .int pt, .int mi, .int nu, .long ha]))], [(k3, .inl (E.2 0, 60, .inl tx))]] : List va_W).flatten := hD
    refine lv_iload_n hx hb dX10_takes_32 rfl (lv_at hl 0 rfl) ?_
    refine z_topi (y := m_tkM tx n i x) (by rw [m_tkM, if_neg c_5]) ?_
    have hP : va_P E.1 vwCl ([[(h0, .inr (9, [.int th, .ref k1, .int sd, .ref k2, .ref k3, .int ln, .int (nI (m_tkN tx n i x)), .int pt, .int mi, .int nu, .long ha]))], [(k3, .inl (E.2 0, 60, .inl tx))]] : List va_W).flatten H := zf_sub hP [0, 1] rfl
    have hD : va_D A ([[(h0, .inr (9, [.int th, .ref k1, .int sd, .ref k2, .ref k3, .int ln, .int (nI (m_tkN tx n i x)), .int pt, .int mi, .int nu, .long ha]))], [(k3, .inl (E.2 0, 60, .inl tx))]] : List va_W).flatten := zf_subD hD [0, 1] (by decide) rfl
    exact W.zret (v := m_tkM tx n i x) hx hb hr (z_bool (m_tkM01 _ _ _ _)) (z_end hP hD hS rfl) hS.2.2 dX10_takes_33 hlocks
  · refine lv_iconst (v := 1) hx hb dX10_takes_8 (by decide) ?_
    refine lv_goto (tgt := 13) hx hb dX10_takes_9 (by decide) ?_
    refine lv_istore_n (lv' := [(2, .int 1), (0, .ref h0), (1, .int x)]) hx hb dX10_takes_13 rfl hl (by decide) rfl (fun ls hl => ?_)
    refine lv_aload_n hx hb dX10_takes_14 rfl (lv_at hl 1 rfl) ?_
    refine lv_dup hx hb dX10_takes_15 rfl ?_
    refine va_get (D := E.1) (ci := 9) (v := .int at0) (C := RX10) (T := TX10) (N := 11) hx hb hts hi_X10 hown hK.1 hP 0 rfl rfl 6 (by decide) (hts (.fieldLink RX10 115 "AltimeterWatchModel" "at" "I") (by decide +kernel)) (fun _ h9 => h9) rfl dX10_takes_16 ?_
    refine lv_iload_n hx hb dX10_takes_19 rfl (lv_at hl 0 rfl) ?_
    refine lv_if_eq (tgt := 27) hx hb dX10_takes_20 (by decide) (fun h9 => absurd h9 ((by decide))) (fun _ => ?_)
    refine lv_iconst (v := 1) hx hb dX10_takes_23 (by decide) ?_
    refine lv_goto (tgt := 28) hx hb dX10_takes_24 (by decide) ?_
    refine lv_iadd hx hb dX10_takes_28 ?_
    refine z_topi (y := (nI (m_tkN tx n i x))) (by rw [m_tkN, if_pos c_5, hat]; exact nI_1 i) ?_
    refine va_put (D := E.1) (ci := 9) (v := .int (nI (m_tkN tx n i x))) (ty := .int) (C := RX10) (T := TX10) (N := 11) hx hb hts hi_X10 tyX10 tyX10_ok nmX10 hown hK.1 hP hD hS 0 rfl rfl 6 (by decide) (hts (.fieldLink RX10 115 "AltimeterWatchModel" "at" "I") (by decide +kernel)) (fun _ h9 => h9) rfl (by decide +kernel) rfl rfl (Nat.le_of_ble_eq_true rfl) dX10_takes_29 (fun H locs hP hD hS => ?_)
    have hP : va_P E.1 vwCl ([[(h0, .inr (9, [.int th, .ref k1, .int sd, .ref k2, .ref k3, .int ln, .int (nI (m_tkN tx n i x)), .int pt, .int mi, .int nu, .long ha]))], [(k3, .inl (E.2 0, 60, .inl tx))]] : List va_W).flatten H := hP
    have hD : va_D A ([[(h0, .inr (9, [.int th, .ref k1, .int sd, .ref k2, .ref k3, .int ln, .int (nI (m_tkN tx n i x)), .int pt, .int mi, .int nu, .long ha]))], [(k3, .inl (E.2 0, 60, .inl tx))]] : List va_W).flatten := hD
    refine lv_iload_n hx hb dX10_takes_32 rfl (lv_at hl 0 rfl) ?_
    refine z_topi (y := m_tkM tx n i x) (by rw [m_tkM, if_pos c_5]) ?_
    have hP : va_P E.1 vwCl ([[(h0, .inr (9, [.int th, .ref k1, .int sd, .ref k2, .ref k3, .int ln, .int (nI (m_tkN tx n i x)), .int pt, .int mi, .int nu, .long ha]))], [(k3, .inl (E.2 0, 60, .inl tx))]] : List va_W).flatten H := zf_sub hP [0, 1] rfl
    have hD : va_D A ([[(h0, .inr (9, [.int th, .ref k1, .int sd, .ref k2, .ref k3, .int ln, .int (nI (m_tkN tx n i x)), .int pt, .int mi, .int nu, .long ha]))], [(k3, .inl (E.2 0, 60, .inl tx))]] : List va_W).flatten := zf_subD hD [0, 1] (by decide) rfl
    exact W.zret (v := m_tkM tx n i x) hx hb hr (z_bool (m_tkM01 _ _ _ _)) (z_end hP hD hS rfl) hS.2.2 dX10_takes_33 hlocks

def m_bgl (least most : Int32) : Nat → Int32 → Int32 → Int32 → Int32
  | 0, _, _, b => b
  | f + 1, low, high, b => if low ≤ most then m_bgl least most f (10 * low) (10 * high + 9) (if b = 0 then (if least ≤ high then 1 else 0) else 1) else b
def m_bgM (v least most : Int32) : Int32 := m_bgl least most 600001 v v 0

set_option maxHeartbeats 4000000 in
set_option maxRecDepth 100000 in
theorem c_X10_begins (l : Launch) (E : zE) (p0 p1 p2 : Int32) (w0 mm : Nat) (hp0 : p0 = nI w0) (hw1 : 1 ≤ w0) (hw2 : w0 ≤ 600000) (hmm : p2 = nI mm) (hm5 : mm ≤ 60000) : zR l yX10_begins wsX10_begins ({ frames := 0, cells := 0, slots := 0, locals := 0 }) E [.int p0, .int p1, .int p2] [] (some (.int (m_bgM p0 p1 p2))) := by
  refine z_startr (cc := cX10_begins) (maxL := 6) (ret := (some .boolean)) (by decide) rfl (Nat.le_of_ble_eq_true rfl) ?_
  intro Pg En s Mi below meth Cd hx hb hr hts hown hlocks hml hP hK ls hl
  have hl : lv_has ls 6 [(0, .int p0), (1, .int p1), (2, .int p2)] := hl
  have LOOP_8 : ∀ (kz : Nat) (w : Nat) (lo hi b : Int32), 600000 < w + kz → 1 ≤ w → w ≤ 600000 → lo = nI w → m_bgM p0 p1 p2 = m_bgl p1 p2 kz lo hi b → b = 0 ∨ b = 1 →  ∀ (ls : Array Slot), lv_has ls 6 [(0, .int p0), (1, .int p1), (2, .int p2), (3, .int lo), (4, .int hi), (5, .int b)] → W Pg l En ({ frames := 0, cells := 0, slots := 0, locals := 0 } : Room) s Mi ([.int p0, .int p1, .int p2] : List Value).toArray below meth Cd s.heap [] 0 0 (MQ below (zQr (some (.int (m_bgM p0 p1 p2)))) ([.int p0, .int p1, .int p2] : List Value).toArray s 0 0 (fun _ => False)) (F0 Mi 8 ls []) := by
    intro kz
    induction kz with
    | zero => intro w lo hi b h1 h2 h4 h3 h5 hb01; exact absurd h1 (by omega)
    | succ kz ih =>
      intro w lo hi b h1 h2 h4 h3 h5 hb01 ls hl
      refine lv_iload_n hx hb dX10_begins_8 rfl (lv_at hl 3 rfl) ?_
      refine lv_iload_n hx hb dX10_begins_9 rfl (lv_at hl 2 rfl) ?_
      refine lv_icmp_gt (tgt := 49) hx hb dX10_begins_10 (by decide) (fun c_10 => ?_) (fun c_10 => ?_)
      · refine lv_iload hx hb dX10_begins_49 (lv_at hl 5 rfl) ?_
        refine z_topi (y := m_bgM p0 p1 p2) (by rw [h5, m_bgl, if_neg (Int32.not_le.mpr c_10)]) ?_
        exact W.zret (v := m_bgM p0 p1 p2) hx hb hr (by rw [h5, m_bgl, if_neg (Int32.not_le.mpr c_10)]; exact z_bool hb01) z_endR (fun _ h => by cases h) dX10_begins_51 hlocks
      · refine lv_iload hx hb dX10_begins_13 (lv_at hl 5 rfl) ?_
        refine lv_if_ne (tgt := 24) hx hb dX10_begins_15 (by decide) (fun c_15 => ?_) (fun c_15 => ?_)
        · refine lv_iconst (v := 1) hx hb dX10_begins_24 (by decide) ?_
          refine lv_goto (tgt := 29) hx hb dX10_begins_25 (by decide) ?_
          refine lv_istore (lv' := [(5, .int 1), (0, .int p0), (1, .int p1), (2, .int p2), (3, .int lo), (4, .int hi)]) hx hb dX10_begins_29 hl (by decide) rfl (fun ls hl => ?_)
          refine lv_bipush (v := 10) hx hb dX10_begins_31 (by decide) ?_
          refine lv_iload_n hx hb dX10_begins_33 rfl (lv_at hl 4 rfl) ?_
          refine lv_imul hx hb dX10_begins_34 ?_
          refine lv_topi (fun f_1 ef_1 => ?_)
          refine lv_istore_n (lv' := [(3, .int f_1), (5, .int 1), (0, .int p0), (1, .int p1), (2, .int p2), (4, .int hi)]) hx hb dX10_begins_35 rfl hl (by decide) rfl (fun ls hl => ?_)
          refine lv_bipush (v := 10) hx hb dX10_begins_36 (by decide) ?_
          refine lv_iload hx hb dX10_begins_38 (lv_at hl 5 rfl) ?_
          refine lv_imul hx hb dX10_begins_40 ?_
          refine lv_bipush (v := 9) hx hb dX10_begins_41 (by decide) ?_
          refine lv_iadd hx hb dX10_begins_43 ?_
          refine lv_topi (fun f_2 ef_2 => ?_)
          refine lv_istore (lv' := [(4, .int f_2), (3, .int f_1), (5, .int 1), (0, .int p0), (1, .int p1), (2, .int p2)]) hx hb dX10_begins_44 hl (by decide) rfl (fun ls hl => ?_)
          refine lv_goto (tgt := 8) hx hb dX10_begins_46 (by decide) ?_
          exact ih (10 * w) f_1 f_2 1 (by omega) (by omega) (by have := nI_nltn (a := mm) (b := w) (by omega) (by omega) (by rw [← h3, ← hmm]; exact c_10); omega) (by rw [ef_1, h3]; exact z_mulI rfl rfl) (by rw [h5, m_bgl, if_pos (Int32.not_lt.mp c_10), if_neg c_15, ef_1, ef_2]) (by decide) ls (lv_sub hl [3, 4, 5, 1, 0, 2] rfl)
        · refine lv_iload hx hb dX10_begins_18 (lv_at hl 4 rfl) ?_
          refine lv_iload_n hx hb dX10_begins_20 rfl (lv_at hl 1 rfl) ?_
          refine lv_icmp_lt (tgt := 28) hx hb dX10_begins_21 (by decide) (fun c_21 => ?_) (fun c_21 => ?_)
          · refine lv_iconst (v := 0) hx hb dX10_begins_28 (by decide) ?_
            refine lv_istore (lv' := [(5, .int 0), (0, .int p0), (1, .int p1), (2, .int p2), (3, .int lo), (4, .int hi)]) hx hb dX10_begins_29 hl (by decide) rfl (fun ls hl => ?_)
            refine lv_bipush (v := 10) hx hb dX10_begins_31 (by decide) ?_
            refine lv_iload_n hx hb dX10_begins_33 rfl (lv_at hl 4 rfl) ?_
            refine lv_imul hx hb dX10_begins_34 ?_
            refine lv_topi (fun f_3 ef_3 => ?_)
            refine lv_istore_n (lv' := [(3, .int f_3), (5, .int 0), (0, .int p0), (1, .int p1), (2, .int p2), (4, .int hi)]) hx hb dX10_begins_35 rfl hl (by decide) rfl (fun ls hl => ?_)
            refine lv_bipush (v := 10) hx hb dX10_begins_36 (by decide) ?_
            refine lv_iload hx hb dX10_begins_38 (lv_at hl 5 rfl) ?_
            refine lv_imul hx hb dX10_begins_40 ?_
            refine lv_bipush (v := 9) hx hb dX10_begins_41 (by decide) ?_
            refine lv_iadd hx hb dX10_begins_43 ?_
            refine lv_topi (fun f_4 ef_4 => ?_)
            refine lv_istore (lv' := [(4, .int f_4), (3, .int f_3), (5, .int 0), (0, .int p0), (1, .int p1), (2, .int p2)]) hx hb dX10_begins_44 hl (by decide) rfl (fun ls hl => ?_)
            refine lv_goto (tgt := 8) hx hb dX10_begins_46 (by decide) ?_
            exact ih (10 * w) f_3 f_4 0 (by omega) (by omega) (by have := nI_nltn (a := mm) (b := w) (by omega) (by omega) (by rw [← h3, ← hmm]; exact c_10); omega) (by rw [ef_3, h3]; exact z_mulI rfl rfl) (by rw [h5, m_bgl, if_pos (Int32.not_lt.mp c_10), if_pos c_15, if_neg (Int32.not_le.mpr c_21), ef_3, ef_4]) (by decide) ls (lv_sub hl [3, 4, 5, 1, 0, 2] rfl)
          · refine lv_iconst (v := 1) hx hb dX10_begins_24 (by decide) ?_
            refine lv_goto (tgt := 29) hx hb dX10_begins_25 (by decide) ?_
            refine lv_istore (lv' := [(5, .int 1), (0, .int p0), (1, .int p1), (2, .int p2), (3, .int lo), (4, .int hi)]) hx hb dX10_begins_29 hl (by decide) rfl (fun ls hl => ?_)
            refine lv_bipush (v := 10) hx hb dX10_begins_31 (by decide) ?_
            refine lv_iload_n hx hb dX10_begins_33 rfl (lv_at hl 4 rfl) ?_
            refine lv_imul hx hb dX10_begins_34 ?_
            refine lv_topi (fun f_5 ef_5 => ?_)
            refine lv_istore_n (lv' := [(3, .int f_5), (5, .int 1), (0, .int p0), (1, .int p1), (2, .int p2), (4, .int hi)]) hx hb dX10_begins_35 rfl hl (by decide) rfl (fun ls hl => ?_)
            refine lv_bipush (v := 10) hx hb dX10_begins_36 (by decide) ?_
            refine lv_iload hx hb dX10_begins_38 (lv_at hl 5 rfl) ?_
            refine lv_imul hx hb dX10_begins_40 ?_
            refine lv_bipush (v := 9) hx hb dX10_begins_41 (by decide) ?_
            refine lv_iadd hx hb dX10_begins_43 ?_
            refine lv_topi (fun f_6 ef_6 => ?_)
            refine lv_istore (lv' := [(4, .int f_6), (3, .int f_5), (5, .int 1), (0, .int p0), (1, .int p1), (2, .int p2)]) hx hb dX10_begins_44 hl (by decide) rfl (fun ls hl => ?_)
            refine lv_goto (tgt := 8) hx hb dX10_begins_46 (by decide) ?_
            exact ih (10 * w) f_5 f_6 1 (by omega) (by omega) (by have := nI_nltn (a := mm) (b := w) (by omega) (by omega) (by rw [← h3, ← hmm]; exact c_10); omega) (by rw [ef_5, h3]; exact z_mulI rfl rfl) (by rw [h5, m_bgl, if_pos (Int32.not_lt.mp c_10), if_pos c_15, if_pos (Int32.not_lt.mp c_21), ef_5, ef_6]) (by decide) ls (lv_sub hl [3, 4, 5, 1, 0, 2] rfl)
  refine lv_iload_n hx hb dX10_begins_0 rfl (lv_at hl 0 rfl) ?_
  refine lv_istore_n (lv' := [(3, .int p0), (0, .int p0), (1, .int p1), (2, .int p2)]) hx hb dX10_begins_1 rfl hl (by decide) rfl (fun ls hl => ?_)
  refine lv_iload_n hx hb dX10_begins_2 rfl (lv_at hl 1 rfl) ?_
  refine lv_istore (lv' := [(4, .int p0), (3, .int p0), (0, .int p0), (1, .int p1), (2, .int p2)]) hx hb dX10_begins_3 hl (by decide) rfl (fun ls hl => ?_)
  refine lv_iconst (v := 0) hx hb dX10_begins_5 (by decide) ?_
  refine lv_istore (lv' := [(5, .int 0), (4, .int p0), (3, .int p0), (0, .int p0), (1, .int p1), (2, .int p2)]) hx hb dX10_begins_6 hl (by decide) rfl (fun ls hl => ?_)
  exact LOOP_8 600001 w0 p0 p0 0 (by omega) hw1 (by omega) hp0 rfl (Or.inl rfl) ls (lv_sub hl [3, 4, 5, 2, 1, 0] rfl)
