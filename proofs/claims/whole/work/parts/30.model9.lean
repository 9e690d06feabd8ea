theorem m_in_p {v lo hi : Int32} (h : ¬ m_in v lo hi = 0) : lo ≤ v ∧ v ≤ hi := by
  unfold m_in at h
  split at h
  · split at h
    · exact ⟨by assumption, by assumption⟩
    · exact absurd rfl h
  · exact absurd rfl h
theorem m_bg_le {v least most : Int32} (h : ¬ m_bgM v least most = 0) : v ≤ most := by
  unfold m_bgM at h
  rw [show (600001 : Nat) = 600000 + 1 from rfl, m_bgl] at h
  split at h
  · assumption
  · exact absurd rfl h
def m_rnC (sg y fr nu least most : Int32) : Int32 :=
  if m_in sg 48 57 = 0 then 0 else if y = fr then (if sg = 48 then (if least = 0 then 1 else 0) else m_bgM (10 * nu + sg - 48) least most)
  else if nu ≤ 0 then 0 else m_bgM (10 * nu + sg - 48) least most
def m_rnL (tx : Nat → Int32) (n : Nat) (fr least most : Int32) : Nat → Nat → Int32 → Nat × Int32
  | 0, i, nu => (i, nu)
  | f + 1, i, nu => if m_rnC (m_sgM tx n i) (nI i) fr nu least most = 0 then (i, nu) else m_rnL tx n fr least most f (i + 1) (10 * nu + m_sgM tx n i - 48)
def m_rnR (tx : Nat → Int32) (n i : Nat) (least most : Int32) : Nat × Int32 := m_rnL tx n (nI i) least most 61 i 0
def m_rnV (tx : Nat → Int32) (n i : Nat) (least most : Int32) : Int32 := if i < (m_rnR tx n i least most).1 then m_in (m_rnR tx n i least most).2 least most else 0
theorem m_rnV01 (tx : Nat → Int32) (n i : Nat) (least most : Int32) : m_rnV tx n i least most = 0 ∨ m_rnV tx n i least most = 1 := by
  unfold m_rnV
  split
  · exact m_in01 _ _ _
  · exact Or.inl rfl

set_option maxHeartbeats 4000000 in
set_option maxRecDepth 100000 in
theorem c_X10_readsNumber (l : Launch) (E : zE) (h0 k1 k2 k3 : Nat) (th sd ln at0 pt mi nu : Int32) (ha : Int64) (tx : Nat → Int32) (n i0 : Nat) (hln : ln = nI n) (hn : n ≤ 60) (hat : at0 = nI i0) (hi : i0 ≤ n) (p1 p2 : Int32) (mm : Nat) (hmm : p2 = nI mm) (hmm5 : mm ≤ 50000) : zM l yX10_readsNumber wsX10_readsNumber ({ frames := 1, cells := 0, slots := 0, locals := 25 }) E [.ref h0, .int p1, .int p2] ([[(h0, .inr (9, [.int th, .ref k1, .int sd, .ref k2, .ref k3, .int ln, .int at0, .int pt, .int mi, .int nu, .long ha]))], [(k3, .inl (E.2 0, 60, .inl tx))]] : List va_W).flatten (some (.int (m_rnV tx n i0 p1 p2))) ([[(h0, .inr (9, [.int th, .ref k1, .int sd, .ref k2, .ref k3, .int ln, .int (nI (m_rnR tx n i0 p1 p2).1), .int pt, .int mi, .int ((m_rnR tx n i0 p1 p2).2), .long ha]))], [(k3, .inl (E.2 0, 60, .inl tx))]] : List va_W).flatten 0 0 := by
  refine z_start (cc := cX10_readsNumber) (maxL := 4) (ret := (some .boolean)) (by decide) rfl (Nat.le_of_ble_eq_true rfl) ?_
  intro Pg En s Mi below meth Cd A hx hb hr hts hown hlocks hin hml hA H hH hP hK hD hS ls hl
  have hl : lv_has ls 4 [(0, .ref h0), (1, .int p1), (2, .int p2)] := hl
  have hi_X10 : ∀ w ∈ wsX100, w ∈ wsX10_readsNumber := by decide +kernel
  have LOOP_10 : ∀ (kz : Nat) (i w : Nat) (y nu1 : Int32), 60 < i + kz → i ≤ n → i0 ≤ i → y = nI i → nu1 = nI w → w ≤ 50000 → m_rnR tx n i0 p1 p2 = m_rnL tx n at0 p1 p2 (61 + i0 - i) i nu1 → (y = at0 → w = 0) →  ∀ (H : Heap) (locs : List Loc), va_P E.1 vwCl ([[(h0, .inr (9, [.int th, .ref k1, .int sd, .ref k2, .ref k3, .int ln, .int y, .int pt, .int mi, .int nu1, .long ha]))], [(k3, .inl (E.2 0, 60, .inl tx))]] : List va_W).flatten H → va_D A ([[(h0, .inr (9, [.int th, .ref k1, .int sd, .ref k2, .ref k3, .int ln, .int y, .int pt, .int mi, .int nu1, .long ha]))], [(k3, .inl (E.2 0, 60, .inl tx))]] : List va_W).flatten → va_S A s.heap H locs → ∀ (ls : Array Slot), lv_has ls 4 [(0, .ref h0), (1, .int p1), (2, .int p2), (3, .int at0)] → W Pg l En ({ frames := 1, cells := 0, slots := 0, locals := 25 } : Room) s Mi ([.ref h0, .int p1, .int p2] : List Value).toArray below meth Cd H locs 0 0 (MQ below (zQ (some (.int (m_rnV tx n i0 p1 p2))) (zB E ([[(h0, .inr (9, [.int th, .ref k1, .int sd, .ref k2, .ref k3, .int ln, .int (nI (m_rnR tx n i0 p1 p2).1), .int pt, .int mi, .int ((m_rnR tx n i0 p1 p2).2), .long ha]))], [(k3, .inl (E.2 0, 60, .inl tx))]] : List va_W).flatten A) A) ([.ref h0, .int p1, .int p2] : List Value).toArray s 0 0 A) (F0 Mi 10 ls []) := by
    intro kz
    induction kz with
    | zero => intro i w y nu1 h1 hi hi0 hy hw hw5 h5 hz; exact absurd h1 (by omega)
    | succ kz ih =>
      intro i w y nu1 h1 hi hi0 hy hw hw5 h5 hz H locs hP hD hS ls hl
      refine lv_aload_n hx hb dX10_readsNumber_10 rfl (lv_at hl 0 rfl) ?_
      have hPc : va_P E.1 vwCl ([[(h0, .inr (9, [.int th, .ref k1, .int sd, .ref k2, .ref k3, .int ln, .int y, .int pt, .int mi, .int nu1, .long ha]))], [(k3, .inl (E.2 0, 60, .inl tx))]] : List va_W).flatten H := zf_sub hP [0, 1] rfl
      refine z_rdv (va_runV (As := []) (rest := []) ⟨hx, hb, hml, hown, hts⟩ (c_X10_sign l E h0 k1 k2 k3 th sd ln y pt mi nu1 ha tx n i hln hn hy hi) (cwV 0 hts gX10_readsNumber_X10_sign rfl rfl rfl (by decide +kernel) ⟨Nat.le_of_ble_eq_true rfl, Nat.le_of_ble_eq_true rfl⟩) ⟨zPr.blind, va_recv hK.1 hPc (ci := 9) (q0 := 0) rfl rfl, z_prer hK hPc⟩ rfl rfl hl.1 rfl (lv_room (Nat.le_of_ble_eq_true rfl)) dX10_readsNumber_11 ⟨Nat.le_of_ble_eq_true rfl, Nat.le_of_ble_eq_true rfl⟩) ?_
      refine W.eq (g2 := F0 Mi 14 ls [.int (m_sgM tx n i)]) rfl ?_
      refine lv_bipush (v := 48) hx hb dX10_readsNumber_14 (by decide) ?_
      refine lv_bipush (v := 57) hx hb dX10_readsNumber_16 (by decide) ?_
      refine z_rdv (va_runS (As := [.int (m_sgM tx n i), .int 48, .int 57]) (rest := []) ⟨hx, hb, hml, hown, hts⟩ (c_X10_in l E (m_sgM tx n i) 48 57) (va_cwS 3 hts gX10_readsNumber_X10_in rfl rfl rfl (by decide +kernel) ⟨Nat.le_of_ble_eq_true rfl, Nat.le_of_ble_eq_true rfl⟩) ⟨zPr.blind, z_prer hK zP_nil⟩ rfl rfl hl.1 rfl (lv_room (Nat.le_of_ble_eq_true rfl)) dX10_readsNumber_18 ⟨Nat.le_of_ble_eq_true rfl, Nat.le_of_ble_eq_true rfl⟩) ?_
      refine W.eq (g2 := F0 Mi 21 ls [.int (m_in (m_sgM tx n i) 48 57)]) rfl ?_
      refine lv_if_eq (tgt := 118) hx hb dX10_readsNumber_21 (by decide) (fun c_21 => ?_) (fun c_21 => ?_)
      · refine lv_aload_n hx hb dX10_readsNumber_118 rfl (lv_at hl 0 rfl) ?_
        refine va_get (D := E.1) (ci := 9) (v := .int y) (C := RX10) (T := TX10) (N := 11) hx hb hts hi_X10 hown hK.1 hP 0 rfl rfl 6 (by decide) (hts (.fieldLink RX10 115 "AltimeterWatchModel" "at" "I") (by decide +kernel)) (fun _ h9 => h9) rfl dX10_readsNumber_119 ?_
        refine lv_iload_n hx hb dX10_readsNumber_122 rfl (lv_at hl 3 rfl) ?_
        refine lv_icmp_le (tgt := 142) hx hb dX10_readsNumber_123 (by decide) (fun c_123 => ?_) (fun c_123 => ?_)
        · refine lv_iconst (v := 0) hx hb dX10_readsNumber_142 (by decide) ?_
          refine z_topi (y := m_rnV tx n i0 p1 p2) (by have eR : m_rnR tx n i0 p1 p2 = (i, nu1) := (by rw [h5, show 61 + i0 - i = 61 + i0 - i - 1 + 1 by omega, m_rnL, ← hy, if_pos (by rw [m_rnC, if_pos c_21])]); rw [m_rnV, eR, if_neg (show ¬ i0 < i from (by have := nI_len (a := i) (b := i0) (by omega) (by omega) (by rw [← hat, ← hy]; exact c_123); omega))]) ?_
          have hP : va_P E.1 vwCl ([[(h0, .inr (9, [.int th, .ref k1, .int sd, .ref k2, .ref k3, .int ln, .int y, .int pt, .int mi, .int nu1, .long ha]))], [(k3, .inl (E.2 0, 60, .inl tx))]] : List va_W).flatten H := zf_sub hP [0, 1] rfl
          have hD : va_D A ([[(h0, .inr (9, [.int th, .ref k1, .int sd, .ref k2, .ref k3, .int ln, .int y, .int pt, .int mi, .int nu1, .long ha]))], [(k3, .inl (E.2 0, 60, .inl tx))]] : List va_W).flatten := zf_subD hD [0, 1] (by decide) rfl
          exact W.zret (v := m_rnV tx n i0 p1 p2) hx hb hr (z_bool (m_rnV01 _ _ _ _ _)) (z_end hP hD hS (by have eR : m_rnR tx n i0 p1 p2 = (i, nu1) := (by rw [h5, show 61 + i0 - i = 61 + i0 - i - 1 + 1 by omega, m_rnL, ← hy, if_pos (by rw [m_rnC, if_pos c_21])]); rw [eR, hy])) hS.2.2 dX10_readsNumber_143 hlocks
        · refine lv_aload_n hx hb dX10_readsNumber_126 rfl (lv_at hl 0 rfl) ?_
          refine va_get (D := E.1) (ci := 9) (v := .int nu1) (C := RX10) (T := TX10) (N := 11) hx hb hts hi_X10 hown hK.1 hP 0 rfl rfl 9 (by decide) (hts (.fieldLink RX10 121 "AltimeterWatchModel" "number" "I") (by decide +kernel)) (fun _ h9 => h9) rfl dX10_readsNumber_127 ?_
          refine lv_iload_n hx hb dX10_readsNumber_130 rfl (lv_at hl 1 rfl) ?_
          refine lv_iload_n hx hb dX10_readsNumber_131 rfl (lv_at hl 2 rfl) ?_
          refine z_rdv (va_runS (As := [.int nu1, .int p1, .int p2]) (rest := []) ⟨hx, hb, hml, hown, hts⟩ (c_X10_in l E nu1 p1 p2) (va_cwS 3 hts gX10_readsNumber_X10_in rfl rfl rfl (by decide +kernel) ⟨Nat.le_of_ble_eq_true rfl, Nat.le_of_ble_eq_true rfl⟩) ⟨zPr.blind, z_prer hK zP_nil⟩ rfl rfl hl.1 rfl (lv_room (Nat.le_of_ble_eq_true rfl)) dX10_readsNumber_132 ⟨Nat.le_of_ble_eq_true rfl, Nat.le_of_ble_eq_true rfl⟩) ?_
          refine W.eq (g2 := F0 Mi 135 ls [.int (m_in nu1 p1 p2)]) rfl ?_
          refine lv_if_eq (tgt := 142) hx hb dX10_readsNumber_135 (by decide) (fun c_135 => ?_) (fun c_135 => ?_)
          · refine lv_iconst (v := 0) hx hb dX10_readsNumber_142 (by decide) ?_
            refine z_topi (y := m_rnV tx n i0 p1 p2) (by have eR : m_rnR tx n i0 p1 p2 = (i, nu1) := (by rw [h5, show 61 + i0 - i = 61 + i0 - i - 1 + 1 by omega, m_rnL, ← hy, if_pos (by rw [m_rnC, if_pos c_21])]); rw [m_rnV, eR, if_pos (show i0 < i from (by have := nI_ltn (a := i0) (b := i) (by omega) (by omega) (by rw [← hat, ← hy]; exact Int32.not_le.mp c_123); exact this))]; exact c_135.symm) ?_
            have hP : va_P E.1 vwCl ([[(h0, .inr (9, [.int th, .ref k1, .int sd, .ref k2, .ref k3, .int ln, .int y, .int pt, .int mi, .int nu1, .long ha]))], [(k3, .inl (E.2 0, 60, .inl tx))]] : List va_W).flatten H := zf_sub hP [0, 1] rfl
            have hD : va_D A ([[(h0, .inr (9, [.int th, .ref k1, .int sd, .ref k2, .ref k3, .int ln, .int y, .int pt, .int mi, .int nu1, .long ha]))], [(k3, .inl (E.2 0, 60, .inl tx))]] : List va_W).flatten := zf_subD hD [0, 1] (by decide) rfl
            exact W.zret (v := m_rnV tx n i0 p1 p2) hx hb hr (z_bool (m_rnV01 _ _ _ _ _)) (z_end hP hD hS (by have eR : m_rnR tx n i0 p1 p2 = (i, nu1) := (by rw [h5, show 61 + i0 - i = 61 + i0 - i - 1 + 1 by omega, m_rnL, ← hy, if_pos (by rw [m_rnC, if_pos c_21])]); rw [eR, hy])) hS.2.2 dX10_readsNumber_143 hlocks
          · refine lv_iconst (v := 1) hx hb dX10_readsNumber_138 (by decide) ?_
            refine lv_goto (tgt := 143) hx hb dX10_readsNumber_139 (by decide) ?_
            refine z_topi (y := m_rnV tx n i0 p1 p2) (by have eR : m_rnR tx n i0 p1 p2 = (i, nu1) := (by rw [h5, show 61 + i0 - i = 61 + i0 - i - 1 + 1 by omega, m_rnL, ← hy, if_pos (by rw [m_rnC, if_pos c_21])]); rw [m_rnV, eR, if_pos (show i0 < i from (by have := nI_ltn (a := i0) (b := i) (by omega) (by omega) (by rw [← hat, ← hy]; exact Int32.not_le.mp c_123); exact this))]; exact ((m_in01 _ _ _).resolve_left c_135).symm) ?_
            have hP : va_P E.1 vwCl ([[(h0, .inr (9, [.int th, .ref k1, .int sd, .ref k2, .ref k3, .int ln, .int y, .int pt, .int mi, .int nu1, .long ha]))], [(k3, .inl (E.2 0, 60, .inl tx))]] : List va_W).flatten H := zf_sub hP [0, 1] rfl
            have hD : va_D A ([[(h0, .inr (9, [.int th, .ref k1, .int sd, .ref k2, .ref k3, .int ln, .int y, .int pt, .int mi, .int nu1, .long ha]))], [(k3, .inl (E.2 0, 60, .inl tx))]] : List va_W).flatten := zf_subD hD [0, 1] (by decide) rfl
            exact W.zret (v := m_rnV tx n i0 p1 p2) hx hb hr (z_bool (m_rnV01 _ _ _ _ _)) (z_end hP hD hS (by have eR : m_rnR tx n i0 p1 p2 = (i, nu1) := (by rw [h5, show 61 + i0 - i = 61 + i0 - i - 1 + 1 by omega, m_rnL, ← hy, if_pos (by rw [m_rnC, if_pos c_21])]); rw [eR, hy])) hS.2.2 dX10_readsNumber_143 hlocks
      · have hlt : i < n := (Nat.lt_or_ge i n).elim id (fun q => absurd (by rw [m_sgM, if_neg (by omega)]; decide) c_21)
        refine lv_aload_n hx hb dX10_readsNumber_24 rfl (lv_at hl 0 rfl) ?_
        refine va_get (D := E.1) (ci := 9) (v := .int y) (C := RX10) (T := TX10) (N := 11) hx hb hts hi_X10 hown hK.1 hP 0 rfl rfl 6 (by decide) (hts (.fieldLink RX10 115 "AltimeterWatchModel" "at" "I") (by decide +kernel)) (fun _ h9 => h9) rfl dX10_readsNumber_25 ?_
        refine lv_iload_n hx hb dX10_readsNumber_28 rfl (lv_at hl 3 rfl) ?_
        refine lv_icmp_eq (tgt := 39) hx hb dX10_readsNumber_29 (by decide) (fun c_29 => ?_) (fun c_29 => ?_)
        · obtain ⟨dg, hdg, hsg⟩ := k_dig (Int32.not_lt.mpr (m_in_p c_21).1) (Int32.not_lt.mpr (m_in_p c_21).2)
          have hv : 10 * nu1 + m_sgM tx n i - 48 = nI (10 * w + dg) := (z_subI (a := 10 * w + (dg + 48)) (b := 48) (z_addI (z_mulI (rfl : (10 : Int32) = nI 10) hw) hsg) (rfl : (48 : Int32) = nI 48) (by omega)).trans (by rw [show 10 * w + (dg + 48) - 48 = 10 * w + dg by omega])
          refine lv_aload_n hx hb dX10_readsNumber_39 rfl (lv_at hl 0 rfl) ?_
          have hPc : va_P E.1 vwCl ([[(h0, .inr (9, [.int th, .ref k1, .int sd, .ref k2, .ref k3, .int ln, .int y, .int pt, .int mi, .int nu1, .long ha]))], [(k3, .inl (E.2 0, 60, .inl tx))]] : List va_W).flatten H := zf_sub hP [0, 1] rfl
          refine z_rdv (va_runV (As := []) (rest := []) ⟨hx, hb, hml, hown, hts⟩ (c_X10_sign l E h0 k1 k2 k3 th sd ln y pt mi nu1 ha tx n i hln hn hy hi) (cwV 0 hts gX10_readsNumber_X10_sign rfl rfl rfl (by decide +kernel) ⟨Nat.le_of_ble_eq_true rfl, Nat.le_of_ble_eq_true rfl⟩) ⟨zPr.blind, va_recv hK.1 hPc (ci := 9) (q0 := 0) rfl rfl, z_prer hK hPc⟩ rfl rfl hl.1 rfl (lv_room (Nat.le_of_ble_eq_true rfl)) dX10_readsNumber_40 ⟨Nat.le_of_ble_eq_true rfl, Nat.le_of_ble_eq_true rfl⟩) ?_
          refine W.eq (g2 := F0 Mi 43 ls [.int (m_sgM tx n i)]) rfl ?_
          refine lv_bipush (v := 48) hx hb dX10_readsNumber_43 (by decide) ?_
          refine lv_icmp_ne (tgt := 63) hx hb dX10_readsNumber_45 (by decide) (fun c_45 => ?_) (fun c_45 => ?_)
          · have hv1 : 1 ≤ 10 * w + dg := (Nat.eq_zero_or_pos dg).elim (fun q => absurd (by rw [hsg, q]; rfl) c_45) (fun q => by omega)
            refine lv_bipush (v := 10) hx hb dX10_readsNumber_63 (by decide) ?_
            refine lv_aload_n hx hb dX10_readsNumber_65 rfl (lv_at hl 0 rfl) ?_
            refine va_get (D := E.1) (ci := 9) (v := .int nu1) (C := RX10) (T := TX10) (N := 11) hx hb hts hi_X10 hown hK.1 hP 0 rfl rfl 9 (by decide) (hts (.fieldLink RX10 121 "AltimeterWatchModel" "number" "I") (by decide +kernel)) (fun _ h9 => h9) rfl dX10_readsNumber_66 ?_
            refine lv_imul hx hb dX10_readsNumber_69 ?_
            refine lv_aload_n hx hb dX10_readsNumber_70 rfl (lv_at hl 0 rfl) ?_
            have hPc : va_P E.1 vwCl ([[(h0, .inr (9, [.int th, .ref k1, .int sd, .ref k2, .ref k3, .int ln, .int y, .int pt, .int mi, .int nu1, .long ha]))], [(k3, .inl (E.2 0, 60, .inl tx))]] : List va_W).flatten H := zf_sub hP [0, 1] rfl
            refine z_rdv (va_runV (As := []) (rest := [.int (10 * nu1)]) ⟨hx, hb, hml, hown, hts⟩ (c_X10_sign l E h0 k1 k2 k3 th sd ln y pt mi nu1 ha tx n i hln hn hy hi) (cwV 0 hts gX10_readsNumber_X10_sign rfl rfl rfl (by decide +kernel) ⟨Nat.le_of_ble_eq_true rfl, Nat.le_of_ble_eq_true rfl⟩) ⟨zPr.blind, va_recv hK.1 hPc (ci := 9) (q0 := 0) rfl rfl, z_prer hK hPc⟩ rfl rfl hl.1 rfl (lv_room (Nat.le_of_ble_eq_true rfl)) dX10_readsNumber_71 ⟨Nat.le_of_ble_eq_true rfl, Nat.le_of_ble_eq_true rfl⟩) ?_
            refine W.eq (g2 := F0 Mi 74 ls [.int (m_sgM tx n i), .int (10 * nu1)]) rfl ?_
            refine lv_iadd hx hb dX10_readsNumber_74 ?_
            refine lv_bipush (v := 48) hx hb dX10_readsNumber_75 (by decide) ?_
            refine lv_isub hx hb dX10_readsNumber_77 ?_
            refine lv_iload_n hx hb dX10_readsNumber_78 rfl (lv_at hl 1 rfl) ?_
            refine lv_iload_n hx hb dX10_readsNumber_79 rfl (lv_at hl 2 rfl) ?_
            refine z_rdv (va_runS (As := [.int (((10 * nu1) + (m_sgM tx n i)) - 48), .int p1, .int p2]) (rest := []) ⟨hx, hb, hml, hown, hts⟩ (c_X10_begins l E (((10 * nu1) + (m_sgM tx n i)) - 48) p1 p2 (10 * w + dg) mm hv hv1 (by omega) hmm (by omega)) (va_cwS 3 hts gX10_readsNumber_X10_begins rfl rfl rfl (by decide +kernel) ⟨Nat.le_of_ble_eq_true rfl, Nat.le_of_ble_eq_true rfl⟩) ⟨zPr.blind, z_prer hK zP_nil⟩ rfl rfl hl.1 rfl (lv_room (Nat.le_of_ble_eq_true rfl)) dX10_readsNumber_80 ⟨Nat.le_of_ble_eq_true rfl, Nat.le_of_ble_eq_true rfl⟩) ?_
            refine W.eq (g2 := F0 Mi 83 ls [.int (m_bgM (((10 * nu1) + (m_sgM tx n i)) - 48) p1 p2)]) rfl ?_
            refine lv_if_eq (tgt := 118) hx hb dX10_readsNumber_83 (by decide) (fun c_83 => ?_) (fun c_83 => ?_)
            · refine lv_aload_n hx hb dX10_readsNumber_118 rfl (lv_at hl 0 rfl) ?_
              refine va_get (D := E.1) (ci := 9) (v := .int y) (C := RX10) (T := TX10) (N := 11) hx hb hts hi_X10 hown hK.1 hP 0 rfl rfl 6 (by decide) (hts (.fieldLink RX10 115 "AltimeterWatchModel" "at" "I") (by decide +kernel)) (fun _ h9 => h9) rfl dX10_readsNumber_119 ?_
              refine lv_iload_n hx hb dX10_readsNumber_122 rfl (lv_at hl 3 rfl) ?_
              refine lv_icmp_le (tgt := 142) hx hb dX10_readsNumber_123 (by decide) (fun c_123 => ?_) (fun c_123 => ?_)
              · refine lv_iconst (v := 0) hx hb dX10_readsNumber_142 (by decide) ?_
                refine z_topi (y := m_rnV tx n i0 p1 p2) (by have eR : m_rnR tx n i0 p1 p2 = (i, nu1) := (by rw [h5, show 61 + i0 - i = 61 + i0 - i - 1 + 1 by omega, m_rnL, ← hy, if_pos (by rw [m_rnC, if_neg c_21, if_pos c_29, if_neg c_45]; exact c_83)]); rw [m_rnV, eR, if_neg (show ¬ i0 < i from (by have := nI_len (a := i) (b := i0) (by omega) (by omega) (by rw [← hat, ← hy]; exact c_123); omega))]) ?_
                have hP : va_P E.1 vwCl ([[(h0, .inr (9, [.int th, .ref k1, .int sd, .ref k2, .ref k3, .int ln, .int y, .int pt, .int mi, .int nu1, .long ha]))], [(k3, .inl (E.2 0, 60, .inl tx))]] : List va_W).flatten H := zf_sub hP [0, 1] rfl
                have hD : va_D A ([[(h0, .inr (9, [.int th, .ref k1, .int sd, .ref k2, .ref k3, .int ln, .int y, .int pt, .int mi, .int nu1, .long ha]))], [(k3, .inl (E.2 0, 60, .inl tx))]] : List va_W).flatten := zf_subD hD [0, 1] (by decide) rfl
                exact W.zret (v := m_rnV tx n i0 p1 p2) hx hb hr (z_bool (m_rnV01 _ _ _ _ _)) (z_end hP hD hS (by have eR : m_rnR tx n i0 p1 p2 = (i, nu1) := (by rw [h5, show 61 + i0 - i = 61 + i0 - i - 1 + 1 by omega, m_rnL, ← hy, if_pos (by rw [m_rnC, if_neg c_21, if_pos c_29, if_neg c_45]; exact c_83)]); rw [eR, hy])) hS.2.2 dX10_readsNumber_143 hlocks
              · refine lv_aload_n hx hb dX10_readsNumber_126 rfl (lv_at hl 0 rfl) ?_
                refine va_get (D := E.1) (ci := 9) (v := .int nu1) (C := RX10) (T := TX10) (N := 11) hx hb hts hi_X10 hown hK.1 hP 0 rfl rfl 9 (by decide) (hts (.fieldLink RX10 121 "AltimeterWatchModel" "number" "I") (by decide +kernel)) (fun _ h9 => h9) rfl dX10_readsNumber_127 ?_
                refine lv_iload_n hx hb dX10_readsNumber_130 rfl (lv_at hl 1 rfl) ?_
                refine lv_iload_n hx hb dX10_readsNumber_131 rfl (lv_at hl 2 rfl) ?_
                refine z_rdv (va_runS (As := [.int nu1, .int p1, .int p2]) (rest := []) ⟨hx, hb, hml, hown, hts⟩ (c_X10_in l E nu1 p1 p2) (va_cwS 3 hts gX10_readsNumber_X10_in rfl rfl rfl (by decide +kernel) ⟨Nat.le_of_ble_eq_true rfl, Nat.le_of_ble_eq_true rfl⟩) ⟨zPr.blind, z_prer hK zP_nil⟩ rfl rfl hl.1 rfl (lv_room (Nat.le_of_ble_eq_true rfl)) dX10_readsNumber_132 ⟨Nat.le_of_ble_eq_true rfl, Nat.le_of_ble_eq_true rfl⟩) ?_
                refine W.eq (g2 := F0 Mi 135 ls [.int (m_in nu1 p1 p2)]) rfl ?_
                refine lv_if_eq (tgt := 142) hx hb dX10_readsNumber_135 (by decide) (fun c_135 => ?_) (fun c_135 => ?_)
                · refine lv_iconst (v := 0) hx hb dX10_readsNumber_142 (by decide) ?_
                  refine z_topi (y := m_rnV tx n i0 p1 p2) (by have eR : m_rnR tx n i0 p1 p2 = (i, nu1) := (by rw [h5, show 61 + i0 - i = 61 + i0 - i - 1 + 1 by omega, m_rnL, ← hy, if_pos (by rw [m_rnC, if_neg c_21, if_pos c_29, if_neg c_45]; exact c_83)]); rw [m_rnV, eR, if_pos (show i0 < i from (by have := nI_ltn (a := i0) (b := i) (by omega) (by omega) (by rw [← hat, ← hy]; exact Int32.not_le.mp c_123); exact this))]; exact c_135.symm) ?_
                  have hP : va_P E.1 vwCl ([[(h0, .inr (9, [.int th, .ref k1, .int sd, .ref k2, .ref k3, .int ln, .int y, .int pt, .int mi, .int nu1, .long ha]))], [(k3, .inl (E.2 0, 60, .inl tx))]] : List va_W).flatten H := zf_sub hP [0, 1] rfl
                  have hD : va_D A ([[(h0, .inr (9, [.int th, .ref k1, .int sd, .ref k2, .ref k3, .int ln, .int y, .int pt, .int mi, .int nu1, .long ha]))], [(k3, .inl (E.2 0, 60, .inl tx))]] : List va_W).flatten := zf_subD hD [0, 1] (by decide) rfl
                  exact W.zret (v := m_rnV tx n i0 p1 p2) hx hb hr (z_bool (m_rnV01 _ _ _ _ _)) (z_end hP hD hS (by have eR : m_rnR tx n i0 p1 p2 = (i, nu1) := (by rw [h5, show 61 + i0 - i = 61 + i0 - i - 1 + 1 by omega, m_rnL, ← hy, if_pos (by rw [m_rnC, if_neg c_21, if_pos c_29, if_neg c_45]; exact c_83)]); rw [eR, hy])) hS.2.2 dX10_readsNumber_143 hlocks
                · refine lv_iconst (v := 1) hx hb dX10_readsNumber_138 (by decide) ?_
                  refine lv_goto (tgt := 143) hx hb dX10_readsNumber_139 (by decide) ?_
                  refine z_topi (y := m_rnV tx n i0 p1 p2) (by have eR : m_rnR tx n i0 p1 p2 = (i, nu1) := (by rw [h5, show 61 + i0 - i = 61 + i0 - i - 1 + 1 by omega, m_rnL, ← hy, if_pos (by rw [m_rnC, if_neg c_21, if_pos c_29, if_neg c_45]; exact c_83)]); rw [m_rnV, eR, if_pos (show i0 < i from (by have := nI_ltn (a := i0) (b := i) (by omega) (by omega) (by rw [← hat, ← hy]; exact Int32.not_le.mp c_123); exact this))]; exact ((m_in01 _ _ _).resolve_left c_135).symm) ?_
                  have hP : va_P E.1 vwCl ([[(h0, .inr (9, [.int th, .ref k1, .int sd, .ref k2, .ref k3, .int ln, .int y, .int pt, .int mi, .int nu1, .long ha]))], [(k3, .inl (E.2 0, 60, .inl tx))]] : List va_W).flatten H := zf_sub hP [0, 1] rfl
                  have hD : va_D A ([[(h0, .inr (9, [.int th, .ref k1, .int sd, .ref k2, .ref k3, .int ln, .int y, .int pt, .int mi, .int nu1, .long ha]))], [(k3, .inl (E.2 0, 60, .inl tx))]] : List va_W).flatten := zf_subD hD [0, 1] (by decide) rfl
                  exact W.zret (v := m_rnV tx n i0 p1 p2) hx hb hr (z_bool (m_rnV01 _ _ _ _ _)) (z_end hP hD hS (by have eR : m_rnR tx n i0 p1 p2 = (i, nu1) := (by rw [h5, show 61 + i0 - i = 61 + i0 - i - 1 + 1 by omega, m_rnL, ← hy, if_pos (by rw [m_rnC, if_neg c_21, if_pos c_29, if_neg c_45]; exact c_83)]); rw [eR, hy])) hS.2.2 dX10_readsNumber_143 hlocks
            · refine lv_aload_n hx hb dX10_readsNumber_86 rfl (lv_at hl 0 rfl) ?_
              refine lv_bipush (v := 10) hx hb dX10_readsNumber_87 (by decide) ?_
              refine lv_aload_n hx hb dX10_readsNumber_89 rfl (lv_at hl 0 rfl) ?_
              refine va_get (D := E.1) (ci := 9) (v := .int nu1) (C := RX10) (T := TX10) (N := 11) hx hb hts hi_X10 hown hK.1 hP 0 rfl rfl 9 (by decide) (hts (.fieldLink RX10 121 "AltimeterWatchModel" "number" "I") (by decide +kernel)) (fun _ h9 => h9) rfl dX10_readsNumber_90 ?_
              refine lv_imul hx hb dX10_readsNumber_93 ?_
              refine lv_aload_n hx hb dX10_readsNumber_94 rfl (lv_at hl 0 rfl) ?_
              have hPc : va_P E.1 vwCl ([[(h0, .inr (9, [.int th, .ref k1, .int sd, .ref k2, .ref k3, .int ln, .int y, .int pt, .int mi, .int nu1, .long ha]))], [(k3, .inl (E.2 0, 60, .inl tx))]] : List va_W).flatten H := zf_sub hP [0, 1] rfl
              refine z_rdv (va_runV (As := []) (rest := [.int (10 * nu1), .ref h0]) ⟨hx, hb, hml, hown, hts⟩ (c_X10_sign l E h0 k1 k2 k3 th sd ln y pt mi nu1 ha tx n i hln hn hy hi) (cwV 0 hts gX10_readsNumber_X10_sign rfl rfl rfl (by decide +kernel) ⟨Nat.le_of_ble_eq_true rfl, Nat.le_of_ble_eq_true rfl⟩) ⟨zPr.blind, va_recv hK.1 hPc (ci := 9) (q0 := 0) rfl rfl, z_prer hK hPc⟩ rfl rfl hl.1 rfl (lv_room (Nat.le_of_ble_eq_true rfl)) dX10_readsNumber_95 ⟨Nat.le_of_ble_eq_true rfl, Nat.le_of_ble_eq_true rfl⟩) ?_
              refine W.eq (g2 := F0 Mi 98 ls [.int (m_sgM tx n i), .int (10 * nu1), .ref h0]) rfl ?_
              refine lv_iadd hx hb dX10_readsNumber_98 ?_
              refine lv_bipush (v := 48) hx hb dX10_readsNumber_99 (by decide) ?_
              refine lv_isub hx hb dX10_readsNumber_101 ?_
              refine lv_topi (fun f_1 ef_1 => ?_)
              refine va_put (D := E.1) (ci := 9) (v := .int f_1) (ty := .int) (C := RX10) (T := TX10) (N := 11) hx hb hts hi_X10 tyX10 tyX10_ok nmX10 hown hK.1 hP hD hS 0 rfl rfl 9 (by decide) (hts (.fieldLink RX10 121 "AltimeterWatchModel" "number" "I") (by decide +kernel)) (fun _ h9 => h9) rfl (by decide +kernel) rfl rfl (Nat.le_of_ble_eq_true rfl) dX10_readsNumber_102 (fun H locs hP hD hS => ?_)
              have hP : va_P E.1 vwCl ([[(h0, .inr (9, [.int th, .ref k1, .int sd, .ref k2, .ref k3, .int ln, .int y, .int pt, .int mi, .int f_1, .long ha]))], [(k3, .inl (E.2 0, 60, .inl tx))]] : List va_W).flatten H := hP
              have hD : va_D A ([[(h0, .inr (9, [.int th, .ref k1, .int sd, .ref k2, .ref k3, .int ln, .int y, .int pt, .int mi, .int f_1, .long ha]))], [(k3, .inl (E.2 0, 60, .inl tx))]] : List va_W).flatten := hD
              refine lv_aload_n hx hb dX10_readsNumber_105 rfl (lv_at hl 0 rfl) ?_
              refine lv_dup hx hb dX10_readsNumber_106 rfl ?_
              refine va_get (D := E.1) (ci := 9) (v := .int y) (C := RX10) (T := TX10) (N := 11) hx hb hts hi_X10 hown hK.1 hP 0 rfl rfl 6 (by decide) (hts (.fieldLink RX10 115 "AltimeterWatchModel" "at" "I") (by decide +kernel)) (fun _ h9 => h9) rfl dX10_readsNumber_107 ?_
              refine lv_iconst (v := 1) hx hb dX10_readsNumber_110 (by decide) ?_
              refine lv_iadd hx hb dX10_readsNumber_111 ?_
              refine lv_topi (fun f_2 ef_2 => ?_)
              refine va_put (D := E.1) (ci := 9) (v := .int f_2) (ty := .int) (C := RX10) (T := TX10) (N := 11) hx hb hts hi_X10 tyX10 tyX10_ok nmX10 hown hK.1 hP hD hS 0 rfl rfl 6 (by decide) (hts (.fieldLink RX10 115 "AltimeterWatchModel" "at" "I") (by decide +kernel)) (fun _ h9 => h9) rfl (by decide +kernel) rfl rfl (Nat.le_of_ble_eq_true rfl) dX10_readsNumber_112 (fun H locs hP hD hS => ?_)
              have hP : va_P E.1 vwCl ([[(h0, .inr (9, [.int th, .ref k1, .int sd, .ref k2, .ref k3, .int ln, .int f_2, .int pt, .int mi, .int f_1, .long ha]))], [(k3, .inl (E.2 0, 60, .inl tx))]] : List va_W).flatten H := hP
              have hD : va_D A ([[(h0, .inr (9, [.int th, .ref k1, .int sd, .ref k2, .ref k3, .int ln, .int f_2, .int pt, .int mi, .int f_1, .long ha]))], [(k3, .inl (E.2 0, 60, .inl tx))]] : List va_W).flatten := hD
              refine lv_goto (tgt := 10) hx hb dX10_readsNumber_115 (by decide) ?_
              exact ih (i + 1) (10 * w + dg) f_2 f_1 (by omega) (by have := hlt; omega) (by omega) (by rw [ef_2, hy]; exact nI_1 i) (by rw [ef_1]; exact hv) (by have q := m_bg_le c_83; rw [hv, hmm] at q; have := nI_len (a := 10 * w + dg) (b := mm) (by omega) (by omega) q; omega) (by rw [h5, show 61 + i0 - i = 61 + i0 - (i + 1) + 1 by omega, m_rnL, ← hy, if_neg (by rw [m_rnC, if_neg c_21, if_pos c_29, if_neg c_45]; exact c_83), ← ef_1]) (fun h9 => absurd h9 (by rw [ef_2, hy, hat, nI_1]; intro h8; have a1 := m_n_nI (n := i + 1) (by omega); have a2 := m_n_nI (n := i0) (by omega); rw [h8] at a1; omega)) _ _ (zf_sub hP [0, 1] rfl) (zf_subD hD [0, 1] (by decide) rfl) hS ls (lv_sub hl [0, 1, 2, 3] rfl)
          · refine lv_aload_n hx hb dX10_readsNumber_48 rfl (lv_at hl 0 rfl) ?_
            refine va_get (D := E.1) (ci := 9) (v := .int y) (C := RX10) (T := TX10) (N := 11) hx hb hts hi_X10 hown hK.1 hP 0 rfl rfl 6 (by decide) (hts (.fieldLink RX10 115 "AltimeterWatchModel" "at" "I") (by decide +kernel)) (fun _ h9 => h9) rfl dX10_readsNumber_49 ?_
            refine lv_iload_n hx hb dX10_readsNumber_52 rfl (lv_at hl 3 rfl) ?_
            refine lv_icmp_ne (tgt := 63) hx hb dX10_readsNumber_53 (by decide) (fun h9 => absurd h9 ((fun h9 => h9 c_29))) (fun _ => ?_)
            refine lv_iload_n hx hb dX10_readsNumber_56 rfl (lv_at hl 1 rfl) ?_
            refine lv_if_ne (tgt := 118) hx hb dX10_readsNumber_57 (by decide) (fun c_57 => ?_) (fun c_57 => ?_)
            · refine lv_aload_n hx hb dX10_readsNumber_118 rfl (lv_at hl 0 rfl) ?_
              refine va_get (D := E.1) (ci := 9) (v := .int y) (C := RX10) (T := TX10) (N := 11) hx hb hts hi_X10 hown hK.1 hP 0 rfl rfl 6 (by decide) (hts (.fieldLink RX10 115 "AltimeterWatchModel" "at" "I") (by decide +kernel)) (fun _ h9 => h9) rfl dX10_readsNumber_119 ?_
              refine lv_iload_n hx hb dX10_readsNumber_122 rfl (lv_at hl 3 rfl) ?_
              refine lv_icmp_le (tgt := 142) hx hb dX10_readsNumber_123 (by decide) (fun c_123 => ?_) (fun c_123 => ?_)
              · refine lv_iconst (v := 0) hx hb dX10_readsNumber_142 (by decide) ?_
                refine z_topi (y := m_rnV tx n i0 p1 p2) (by have eR : m_rnR tx n i0 p1 p2 = (i, nu1) := (by rw [h5, show 61 + i0 - i = 61 + i0 - i - 1 + 1 by omega, m_rnL, ← hy, if_pos (by rw [m_rnC, if_neg c_21, if_pos c_29, if_pos c_45, if_neg c_57])]); rw [m_rnV, eR, if_neg (show ¬ i0 < i from (by have := nI_len (a := i) (b := i0) (by omega) (by omega) (by rw [← hat, ← hy]; exact c_123); omega))]) ?_
                have hP : va_P E.1 vwCl ([[(h0, .inr (9, [.int th, .ref k1, .int sd, .ref k2, .ref k3, .int ln, .int y, .int pt, .int mi, .int nu1, .long ha]))], [(k3, .inl (E.2 0, 60, .inl tx))]] : List va_W).flatten H := zf_sub hP [0, 1] rfl
                have hD : va_D A ([[(h0, .inr (9, [.int th, .ref k1, .int sd, .ref k2, .ref k3, .int ln, .int y, .int pt, .int mi, .int nu1, .long ha]))], [(k3, .inl (E.2 0, 60, .inl tx))]] : List va_W).flatten := zf_subD hD [0, 1] (by decide) rfl
                exact W.zret (v := m_rnV tx n i0 p1 p2) hx hb hr (z_bool (m_rnV01 _ _ _ _ _)) (z_end hP hD hS (by have eR : m_rnR tx n i0 p1 p2 = (i, nu1) := (by rw [h5, show 61 + i0 - i = 61 + i0 - i - 1 + 1 by omega, m_rnL, ← hy, if_pos (by rw [m_rnC, if_neg c_21, if_pos c_29, if_pos c_45, if_neg c_57])]); rw [eR, hy])) hS.2.2 dX10_readsNumber_143 hlocks
              · refine lv_aload_n hx hb dX10_readsNumber_126 rfl (lv_at hl 0 rfl) ?_
                refine va_get (D := E.1) (ci := 9) (v := .int nu1) (C := RX10) (T := TX10) (N := 11) hx hb hts hi_X10 hown hK.1 hP 0 rfl rfl 9 (by decide) (hts (.fieldLink RX10 121 "AltimeterWatchModel" "number" "I") (by decide +kernel)) (fun _ h9 => h9) rfl dX10_readsNumber_127 ?_
                refine lv_iload_n hx hb dX10_readsNumber_130 rfl (lv_at hl 1 rfl) ?_
                refine lv_iload_n hx hb dX10_readsNumber_131 rfl (lv_at hl 2 rfl) ?_
                refine z_rdv (va_runS (As := [.int nu1, .int p1, .int p2]) (rest := []) ⟨hx, hb, hml, hown, hts⟩ (c_X10_in l E nu1 p1 p2) (va_cwS 3 hts gX10_readsNumber_X10_in rfl rfl rfl (by decide +kernel) ⟨Nat.le_of_ble_eq_true rfl, Nat.le_of_ble_eq_true rfl⟩) ⟨zPr.blind, z_prer hK zP_nil⟩ rfl rfl hl.1 rfl (lv_room (Nat.le_of_ble_eq_true rfl)) dX10_readsNumber_132 ⟨Nat.le_of_ble_eq_true rfl, Nat.le_of_ble_eq_true rfl⟩) ?_
                refine W.eq (g2 := F0 Mi 135 ls [.int (m_in nu1 p1 p2)]) rfl ?_
                refine lv_if_eq (tgt := 142) hx hb dX10_readsNumber_135 (by decide) (fun c_135 => ?_) (fun c_135 => ?_)
                · refine lv_iconst (v := 0) hx hb dX10_readsNumber_142 (by decide) ?_
                  refine z_topi (y := m_rnV tx n i0 p1 p2) (by have eR : m_rnR tx n i0 p1 p2 = (i, nu1) := (by rw [h5, show 61 + i0 - i = 61 + i0 - i - 1 + 1 by omega, m_rnL, ← hy, if_pos (by rw [m_rnC, if_neg c_21, if_pos c_29, if_pos c_45, if_neg c_57])]); rw [m_rnV, eR, if_pos (show i0 < i from (by have := nI_ltn (a := i0) (b := i) (by omega) (by omega) (by rw [← hat, ← hy]; exact Int32.not_le.mp c_123); exact this))]; exact c_135.symm) ?_
                  have hP : va_P E.1 vwCl ([[(h0, .inr (9, [.int th, .ref k1, .int sd, .ref k2, .ref k3, .int ln, .int y, .int pt, .int mi, .int nu1, .long ha]))], [(k3, .inl (E.2 0, 60, .inl tx))]] : List va_W).flatten H := zf_sub hP [0, 1] rfl
                  have hD : va_D A ([[(h0, .inr (9, [.int th, .ref k1, .int sd, .ref k2, .ref k3, .int ln, .int y, .int pt, .int mi, .int nu1, .long ha]))], [(k3, .inl (E.2 0, 60, .inl tx))]] : List va_W).flatten := zf_subD hD [0, 1] (by decide) rfl
                  exact W.zret (v := m_rnV tx n i0 p1 p2) hx hb hr (z_bool (m_rnV01 _ _ _ _ _)) (z_end hP hD hS (by have eR : m_rnR tx n i0 p1 p2 = (i, nu1) := (by rw [h5, show 61 + i0 - i = 61 + i0 - i - 1 + 1 by omega, m_rnL, ← hy, if_pos (by rw [m_rnC, if_neg c_21, if_pos c_29, if_pos c_45, if_neg c_57])]); rw [eR, hy])) hS.2.2 dX10_readsNumber_143 hlocks
                · refine lv_iconst (v := 1) hx hb dX10_readsNumber_138 (by decide) ?_
                  refine lv_goto (tgt := 143) hx hb dX10_readsNumber_139 (by decide) ?_
                  refine z_topi (y := m_rnV tx n i0 p1 p2) (by have eR : m_rnR tx n i0 p1 p2 = (i, nu1) := (by rw [h5, show 61 + i0 - i = 61 + i0 - i - 1 + 1 by omega, m_rnL, ← hy, if_pos (by rw [m_rnC, if_neg c_21, if_pos c_29, if_pos c_45, if_neg c_57])]); rw [m_rnV, eR, if_pos (show i0 < i from (by have := nI_ltn (a := i0) (b := i) (by omega) (by omega) (by rw [← hat, ← hy]; exact Int32.not_le.mp c_123); exact this))]; exact ((m_in01 _ _ _).resolve_left c_135).symm) ?_
                  have hP : va_P E.1 vwCl ([[(h0, .inr (9, [.int th, .ref k1, .int sd, .ref k2, .ref k3, .int ln, .int y, .int pt, .int mi, .int nu1, .long ha]))], [(k3, .inl (E.2 0, 60, .inl tx))]] : List va_W).flatten H := zf_sub hP [0, 1] rfl
                  have hD : va_D A ([[(h0, .inr (9, [.int th, .ref k1, .int sd, .ref k2, .ref k3, .int ln, .int y, .int pt, .int mi, .int nu1, .long ha]))], [(k3, .inl (E.2 0, 60, .inl tx))]] : List va_W).flatten := zf_subD hD [0, 1] (by decide) rfl
                  exact W.zret (v := m_rnV tx n i0 p1 p2) hx hb hr (z_bool (m_rnV01 _ _ _ _ _)) (z_end hP hD hS (by have eR : m_rnR tx n i0 p1 p2 = (i, nu1) := (by rw [h5, show 61 + i0 - i = 61 + i0 - i - 1 + 1 by omega, m_rnL, ← hy, if_pos (by rw [m_rnC, if_neg c_21, if_pos c_29, if_pos c_45, if_neg c_57])]); rw [eR, hy])) hS.2.2 dX10_readsNumber_143 hlocks
            · refine lv_goto (tgt := 86) hx hb dX10_readsNumber_60 (by decide) ?_
              refine lv_aload_n hx hb dX10_readsNumber_86 rfl (lv_at hl 0 rfl) ?_
              refine lv_bipush (v := 10) hx hb dX10_readsNumber_87 (by decide) ?_
              refine lv_aload_n hx hb dX10_readsNumber_89 rfl (lv_at hl 0 rfl) ?_
              refine va_get (D := E.1) (ci := 9) (v := .int nu1) (C := RX10) (T := TX10) (N := 11) hx hb hts hi_X10 hown hK.1 hP 0 rfl rfl 9 (by decide) (hts (.fieldLink RX10 121 "AltimeterWatchModel" "number" "I") (by decide +kernel)) (fun _ h9 => h9) rfl dX10_readsNumber_90 ?_
              refine lv_imul hx hb dX10_readsNumber_93 ?_
              refine lv_aload_n hx hb dX10_readsNumber_94 rfl (lv_at hl 0 rfl) ?_
              have hPc : va_P E.1 vwCl ([[(h0, .inr (9, [.int th, .ref k1, .int sd, .ref k2, .ref k3, .int ln, .int y, .int pt, .int mi, .int nu1, .long ha]))], [(k3, .inl (E.2 0, 60, .inl tx))]] : List va_W).flatten H := zf_sub hP [0, 1] rfl
              refine z_rdv (va_runV (As := []) (rest := [.int (10 * nu1), .ref h0]) ⟨hx, hb, hml, hown, hts⟩ (c_X10_sign l E h0 k1 k2 k3 th sd ln y pt mi nu1 ha tx n i hln hn hy hi) (cwV 0 hts gX10_readsNumber_X10_sign rfl rfl rfl (by decide +kernel) ⟨Nat.le_of_ble_eq_true rfl, Nat.le_of_ble_eq_true rfl⟩) ⟨zPr.blind, va_recv hK.1 hPc (ci := 9) (q0 := 0) rfl rfl, z_prer hK hPc⟩ rfl rfl hl.1 rfl (lv_room (Nat.le_of_ble_eq_true rfl)) dX10_readsNumber_95 ⟨Nat.le_of_ble_eq_true rfl, Nat.le_of_ble_eq_true rfl⟩) ?_
              refine W.eq (g2 := F0 Mi 98 ls [.int (m_sgM tx n i), .int (10 * nu1), .ref h0]) rfl ?_
              refine lv_iadd hx hb dX10_readsNumber_98 ?_
              refine lv_bipush (v := 48) hx hb dX10_readsNumber_99 (by decide) ?_
              refine lv_isub hx hb dX10_readsNumber_101 ?_
              refine lv_topi (fun f_3 ef_3 => ?_)
              refine va_put (D := E.1) (ci := 9) (v := .int f_3) (ty := .int) (C := RX10) (T := TX10) (N := 11) hx hb hts hi_X10 tyX10 tyX10_ok nmX10 hown hK.1 hP hD hS 0 rfl rfl 9 (by decide) (hts (.fieldLink RX10 121 "AltimeterWatchModel" "number" "I") (by decide +kernel)) (fun _ h9 => h9) rfl (by decide +kernel) rfl rfl (Nat.le_of_ble_eq_true rfl) dX10_readsNumber_102 (fun H locs hP hD hS => ?_)
              have hP : va_P E.1 vwCl ([[(h0, .inr (9, [.int th, .ref k1, .int sd, .ref k2, .ref k3, .int ln, .int y, .int pt, .int mi, .int f_3, .long ha]))], [(k3, .inl (E.2 0, 60, .inl tx))]] : List va_W).flatten H := hP
              have hD : va_D A ([[(h0, .inr (9, [.int th, .ref k1, .int sd, .ref k2, .ref k3, .int ln, .int y, .int pt, .int mi, .int f_3, .long ha]))], [(k3, .inl (E.2 0, 60, .inl tx))]] : List va_W).flatten := hD
              refine lv_aload_n hx hb dX10_readsNumber_105 rfl (lv_at hl 0 rfl) ?_
              refine lv_dup hx hb dX10_readsNumber_106 rfl ?_
              refine va_get (D := E.1) (ci := 9) (v := .int y) (C := RX10) (T := TX10) (N := 11) hx hb hts hi_X10 hown hK.1 hP 0 rfl rfl 6 (by decide) (hts (.fieldLink RX10 115 "AltimeterWatchModel" "at" "I") (by decide +kernel)) (fun _ h9 => h9) rfl dX10_readsNumber_107 ?_
              refine lv_iconst (v := 1) hx hb dX10_readsNumber_110 (by decide) ?_
              refine lv_iadd hx hb dX10_readsNumber_111 ?_
              refine lv_topi (fun f_4 ef_4 => ?_)
              refine va_put (D := E.1) (ci := 9) (v := .int f_4) (ty := .int) (C := RX10) (T := TX10) (N := 11) hx hb hts hi_X10 tyX10 tyX10_ok nmX10 hown hK.1 hP hD hS 0 rfl rfl 6 (by decide) (hts (.fieldLink RX10 115 "AltimeterWatchModel" "at" "I") (by decide +kernel)) (fun _ h9 => h9) rfl (by decide +kernel) rfl rfl (Nat.le_of_ble_eq_true rfl) dX10_readsNumber_112 (fun H locs hP hD hS => ?_)
              have hP : va_P E.1 vwCl ([[(h0, .inr (9, [.int th, .ref k1, .int sd, .ref k2, .ref k3, .int ln, .int f_4, .int pt, .int mi, .int f_3, .long ha]))], [(k3, .inl (E.2 0, 60, .inl tx))]] : List va_W).flatten H := hP
              have hD : va_D A ([[(h0, .inr (9, [.int th, .ref k1, .int sd, .ref k2, .ref k3, .int ln, .int f_4, .int pt, .int mi, .int f_3, .long ha]))], [(k3, .inl (E.2 0, 60, .inl tx))]] : List va_W).flatten := hD
              refine lv_goto (tgt := 10) hx hb dX10_readsNumber_115 (by decide) ?_
              exact ih (i + 1) (10 * w + dg) f_4 f_3 (by omega) (by have := hlt; omega) (by omega) (by rw [ef_4, hy]; exact nI_1 i) (by rw [ef_3]; exact hv) (by have q := hz c_29; have q2 : dg = 0 := (by have e9 := hsg.symm.trans c_45; have := m_n_nI (n := dg + 48) (by omega); rw [e9] at this; have e8 : m_n 48 = 48 := (by decide); omega); omega) (by rw [h5, show 61 + i0 - i = 61 + i0 - (i + 1) + 1 by omega, m_rnL, ← hy, if_neg (by rw [m_rnC, if_neg c_21, if_pos c_29, if_pos c_45, if_pos c_57]; decide), ← ef_3]) (fun h9 => absurd h9 (by rw [ef_4, hy, hat, nI_1]; intro h8; have a1 := m_n_nI (n := i + 1) (by omega); have a2 := m_n_nI (n := i0) (by omega); rw [h8] at a1; omega)) _ _ (zf_sub hP [0, 1] rfl) (zf_subD hD [0, 1] (by decide) rfl) hS ls (lv_sub hl [0, 1, 2, 3] rfl)
        · refine lv_aload_n hx hb dX10_readsNumber_32 rfl (lv_at hl 0 rfl) ?_
          refine va_get (D := E.1) (ci := 9) (v := .int nu1) (C := RX10) (T := TX10) (N := 11) hx hb hts hi_X10 hown hK.1 hP 0 rfl rfl 9 (by decide) (hts (.fieldLink RX10 121 "AltimeterWatchModel" "number" "I") (by decide +kernel)) (fun _ h9 => h9) rfl dX10_readsNumber_33 ?_
          refine lv_if_le (tgt := 118) hx hb dX10_readsNumber_36 (by decide) (fun c_36 => ?_) (fun c_36 => ?_)
          · refine lv_aload_n hx hb dX10_readsNumber_118 rfl (lv_at hl 0 rfl) ?_
            refine va_get (D := E.1) (ci := 9) (v := .int y) (C := RX10) (T := TX10) (N := 11) hx hb hts hi_X10 hown hK.1 hP 0 rfl rfl 6 (by decide) (hts (.fieldLink RX10 115 "AltimeterWatchModel" "at" "I") (by decide +kernel)) (fun _ h9 => h9) rfl dX10_readsNumber_119 ?_
            refine lv_iload_n hx hb dX10_readsNumber_122 rfl (lv_at hl 3 rfl) ?_
            refine lv_icmp_le (tgt := 142) hx hb dX10_readsNumber_123 (by decide) (fun c_123 => ?_) (fun c_123 => ?_)
            · refine lv_iconst (v := 0) hx hb dX10_readsNumber_142 (by decide) ?_
              refine z_topi (y := m_rnV tx n i0 p1 p2) (by have eR : m_rnR tx n i0 p1 p2 = (i, nu1) := (by rw [h5, show 61 + i0 - i = 61 + i0 - i - 1 + 1 by omega, m_rnL, ← hy, if_pos (by rw [m_rnC, if_neg c_21, if_neg c_29, if_pos c_36])]); rw [m_rnV, eR, if_neg (show ¬ i0 < i from (by have := nI_len (a := i) (b := i0) (by omega) (by omega) (by rw [← hat, ← hy]; exact c_123); omega))]) ?_
              have hP : va_P E.1 vwCl ([[(h0, .inr (9, [.int th, .ref k1, .int sd, .ref k2, .ref k3, .int ln, .int y, .int pt, .int mi, .int nu1, .long ha]))], [(k3, .inl (E.2 0, 60, .inl tx))]] : List va_W).flatten H := zf_sub hP [0, 1] rfl
              have hD : va_D A ([[(h0, .inr (9, [.int th, .ref k1, .int sd, .ref k2, .ref k3, .int ln, .int y, .int pt, .int mi, .int nu1, .long ha]))], [(k3, .inl (E.2 0, 60, .inl tx))]] : List va_W).flatten := zf_subD hD [0, 1] (by decide) rfl
              exact W.zret (v := m_rnV tx n i0 p1 p2) hx hb hr (z_bool (m_rnV01 _ _ _ _ _)) (z_end hP hD hS (by have eR : m_rnR tx n i0 p1 p2 = (i, nu1) := (by rw [h5, show 61 + i0 - i = 61 + i0 - i - 1 + 1 by omega, m_rnL, ← hy, if_pos (by rw [m_rnC, if_neg c_21, if_neg c_29, if_pos c_36])]); rw [eR, hy])) hS.2.2 dX10_readsNumber_143 hlocks
            · refine lv_aload_n hx hb dX10_readsNumber_126 rfl (lv_at hl 0 rfl) ?_
              refine va_get (D := E.1) (ci := 9) (v := .int nu1) (C := RX10) (T := TX10) (N := 11) hx hb hts hi_X10 hown hK.1 hP 0 rfl rfl 9 (by decide) (hts (.fieldLink RX10 121 "AltimeterWatchModel" "number" "I") (by decide +kernel)) (fun _ h9 => h9) rfl dX10_readsNumber_127 ?_
              refine lv_iload_n hx hb dX10_readsNumber_130 rfl (lv_at hl 1 rfl) ?_
              refine lv_iload_n hx hb dX10_readsNumber_131 rfl (lv_at hl 2 rfl) ?_
              refine z_rdv (va_runS (As := [.int nu1, .int p1, .int p2]) (rest := []) ⟨hx, hb, hml, hown, hts⟩ (c_X10_in l E nu1 p1 p2) (va_cwS 3 hts gX10_readsNumber_X10_in rfl rfl rfl (by decide +kernel) ⟨Nat.le_of_ble_eq_true rfl, Nat.le_of_ble_eq_true rfl⟩) ⟨zPr.blind, z_prer hK zP_nil⟩ rfl rfl hl.1 rfl (lv_room (Nat.le_of_ble_eq_true rfl)) dX10_readsNumber_132 ⟨Nat.le_of_ble_eq_true rfl, Nat.le_of_ble_eq_true rfl⟩) ?_
              refine W.eq (g2 := F0 Mi 135 ls [.int (m_in nu1 p1 p2)]) rfl ?_
              refine lv_if_eq (tgt := 142) hx hb dX10_readsNumber_135 (by decide) (fun c_135 => ?_) (fun c_135 => ?_)
              · refine lv_iconst (v := 0) hx hb dX10_readsNumber_142 (by decide) ?_
                refine z_topi (y := m_rnV tx n i0 p1 p2) (by have eR : m_rnR tx n i0 p1 p2 = (i, nu1) := (by rw [h5, show 61 + i0 - i = 61 + i0 - i - 1 + 1 by omega, m_rnL, ← hy, if_pos (by rw [m_rnC, if_neg c_21, if_neg c_29, if_pos c_36])]); rw [m_rnV, eR, if_pos (show i0 < i from (by have := nI_ltn (a := i0) (b := i) (by omega) (by omega) (by rw [← hat, ← hy]; exact Int32.not_le.mp c_123); exact this))]; exact c_135.symm) ?_
                have hP : va_P E.1 vwCl ([[(h0, .inr (9, [.int th, .ref k1, .int sd, .ref k2, .ref k3, .int ln, .int y, .int pt, .int mi, .int nu1, .long ha]))], [(k3, .inl (E.2 0, 60, .inl tx))]] : List va_W).flatten H := zf_sub hP [0, 1] rfl
                have hD : va_D A ([[(h0, .inr (9, [.int th, .ref k1, .int sd, .ref k2, .ref k3, .int ln, .int y, .int pt, .int mi, .int nu1, .long ha]))], [(k3, .inl (E.2 0, 60, .inl tx))]] : List va_W).flatten := zf_subD hD [0, 1] (by decide) rfl
                exact W.zret (v := m_rnV tx n i0 p1 p2) hx hb hr (z_bool (m_rnV01 _ _ _ _ _)) (z_end hP hD hS (by have eR : m_rnR tx n i0 p1 p2 = (i, nu1) := (by rw [h5, show 61 + i0 - i = 61 + i0 - i - 1 + 1 by omega, m_rnL, ← hy, if_pos (by rw [m_rnC, if_neg c_21, if_neg c_29, if_pos c_36])]); rw [eR, hy])) hS.2.2 dX10_readsNumber_143 hlocks
              · refine lv_iconst (v := 1) hx hb dX10_readsNumber_138 (by decide) ?_
                refine lv_goto (tgt := 143) hx hb dX10_readsNumber_139 (by decide) ?_
                refine z_topi (y := m_rnV tx n i0 p1 p2) (by have eR : m_rnR tx n i0 p1 p2 = (i, nu1) := (by rw [h5, show 61 + i0 - i = 61 + i0 - i - 1 + 1 by omega, m_rnL, ← hy, if_pos (by rw [m_rnC, if_neg c_21, if_neg c_29, if_pos c_36])]); rw [m_rnV, eR, if_pos (show i0 < i from (by have := nI_ltn (a := i0) (b := i) (by omega) (by omega) (by rw [← hat, ← hy]; exact Int32.not_le.mp c_123); exact this))]; exact ((m_in01 _ _ _).resolve_left c_135).symm) ?_
                have hP : va_P E.1 vwCl ([[(h0, .inr (9, [.int th, .ref k1, .int sd, .ref k2, .ref k3, .int ln, .int y, .int pt, .int mi, .int nu1, .long ha]))], [(k3, .inl (E.2 0, 60, .inl tx))]] : List va_W).flatten H := zf_sub hP [0, 1] rfl
                have hD : va_D A ([[(h0, .inr (9, [.int th, .ref k1, .int sd, .ref k2, .ref k3, .int ln, .int y, .int pt, .int mi, .int nu1, .long ha]))], [(k3, .inl (E.2 0, 60, .inl tx))]] : List va_W).flatten := zf_subD hD [0, 1] (by decide) rfl
                exact W.zret (v := m_rnV tx n i0 p1 p2) hx hb hr (z_bool (m_rnV01 _ _ _ _ _)) (z_end hP hD hS (by have eR : m_rnR tx n i0 p1 p2 = (i, nu1) := (by rw [h5, show 61 + i0 - i = 61 + i0 - i - 1 + 1 by omega, m_rnL, ← hy, if_pos (by rw [m_rnC, if_neg c_21, if_neg c_29, if_pos c_36])]); rw [eR, hy])) hS.2.2 dX10_readsNumber_143 hlocks
          · obtain ⟨dg, hdg, hsg⟩ := k_dig (Int32.not_lt.mpr (m_in_p c_21).1) (Int32.not_lt.mpr (m_in_p c_21).2)
            have hv : 10 * nu1 + m_sgM tx n i - 48 = nI (10 * w + dg) := (z_subI (a := 10 * w + (dg + 48)) (b := 48) (z_addI (z_mulI (rfl : (10 : Int32) = nI 10) hw) hsg) (rfl : (48 : Int32) = nI 48) (by omega)).trans (by rw [show 10 * w + (dg + 48) - 48 = 10 * w + dg by omega])
            refine lv_aload_n hx hb dX10_readsNumber_39 rfl (lv_at hl 0 rfl) ?_
            have hPc : va_P E.1 vwCl ([[(h0, .inr (9, [.int th, .ref k1, .int sd, .ref k2, .ref k3, .int ln, .int y, .int pt, .int mi, .int nu1, .long ha]))], [(k3, .inl (E.2 0, 60, .inl tx))]] : List va_W).flatten H := zf_sub hP [0, 1] rfl
            refine z_rdv (va_runV (As := []) (rest := []) ⟨hx, hb, hml, hown, hts⟩ (c_X10_sign l E h0 k1 k2 k3 th sd ln y pt mi nu1 ha tx n i hln hn hy hi) (cwV 0 hts gX10_readsNumber_X10_sign rfl rfl rfl (by decide +kernel) ⟨Nat.le_of_ble_eq_true rfl, Nat.le_of_ble_eq_true rfl⟩) ⟨zPr.blind, va_recv hK.1 hPc (ci := 9) (q0 := 0) rfl rfl, z_prer hK hPc⟩ rfl rfl hl.1 rfl (lv_room (Nat.le_of_ble_eq_true rfl)) dX10_readsNumber_40 ⟨Nat.le_of_ble_eq_true rfl, Nat.le_of_ble_eq_true rfl⟩) ?_
            refine W.eq (g2 := F0 Mi 43 ls [.int (m_sgM tx n i)]) rfl ?_
            refine lv_bipush (v := 48) hx hb dX10_readsNumber_43 (by decide) ?_
            refine lv_icmp_ne (tgt := 63) hx hb dX10_readsNumber_45 (by decide) (fun c_45 => ?_) (fun c_45 => ?_)
            · have hv1 : 1 ≤ 10 * w + dg := (Nat.eq_zero_or_pos w).elim (fun q => absurd (by rw [hw, q]; decide) c_36) (fun q => by omega)
              refine lv_bipush (v := 10) hx hb dX10_readsNumber_63 (by decide) ?_
              refine lv_aload_n hx hb dX10_readsNumber_65 rfl (lv_at hl 0 rfl) ?_
              refine va_get (D := E.1) (ci := 9) (v := .int nu1) (C := RX10) (T := TX10) (N := 11) hx hb hts hi_X10 hown hK.1 hP 0 rfl rfl 9 (by decide) (hts (.fieldLink RX10 121 "AltimeterWatchModel" "number" "I") (by decide +kernel)) (fun _ h9 => h9) rfl dX10_readsNumber_66 ?_
              refine lv_imul hx hb dX10_readsNumber_69 ?_
              refine lv_aload_n hx hb dX10_readsNumber_70 rfl (lv_at hl 0 rfl) ?_
              have hPc : va_P E.1 vwCl ([[(h0, .inr (9, [.int th, .ref k1, .int sd, .ref k2, .ref k3, .int ln, .int y, .int pt, .int mi, .int nu1, .long ha]))], [(k3, .inl (E.2 0, 60, .inl tx))]] : List va_W).flatten H := zf_sub hP [0, 1] rfl
              refine z_rdv (va_runV (As := []) (rest := [.int (10 * nu1)]) ⟨hx, hb, hml, hown, hts⟩ (c_X10_sign l E h0 k1 k2 k3 th sd ln y pt mi nu1 ha tx n i hln hn hy hi) (cwV 0 hts gX10_readsNumber_X10_sign rfl rfl rfl (by decide +kernel) ⟨Nat.le_of_ble_eq_true rfl, Nat.le_of_ble_eq_true rfl⟩) ⟨zPr.blind, va_recv hK.1 hPc (ci := 9) (q0 := 0) rfl rfl, z_prer hK hPc⟩ rfl rfl hl.1 rfl (lv_room (Nat.le_of_ble_eq_true rfl)) dX10_readsNumber_71 ⟨Nat.le_of_ble_eq_true rfl, Nat.le_of_ble_eq_true rfl⟩) ?_
              refine W.eq (g2 := F0 Mi 74 ls [.int (m_sgM tx n i), .int (10 * nu1)]) rfl ?_
              refine lv_iadd hx hb dX10_readsNumber_74 ?_
              refine lv_bipush (v := 48) hx hb dX10_readsNumber_75 (by decide) ?_
              refine lv_isub hx hb dX10_readsNumber_77 ?_
              refine lv_iload_n hx hb dX10_readsNumber_78 rfl (lv_at hl 1 rfl) ?_
              refine lv_iload_n hx hb dX10_readsNumber_79 rfl (lv_at hl 2 rfl) ?_
              refine z_rdv (va_runS (As := [.int (((10 * nu1) + (m_sgM tx n i)) - 48), .int p1, .int p2]) (rest := []) ⟨hx, hb, hml, hown, hts⟩ (c_X10_begins l E (((10 * nu1) + (m_sgM tx n i)) - 48) p1 p2 (10 * w + dg) mm hv hv1 (by omega) hmm (by omega)) (va_cwS 3 hts gX10_readsNumber_X10_begins rfl rfl rfl (by decide +kernel) ⟨Nat.le_of_ble_eq_true rfl, Nat.le_of_ble_eq_true rfl⟩) ⟨zPr.blind, z_prer hK zP_nil⟩ rfl rfl hl.1 rfl (lv_room (Nat.le_of_ble_eq_true rfl)) dX10_readsNumber_80 ⟨Nat.le_of_ble_eq_true rfl, Nat.le_of_ble_eq_true rfl⟩) ?_
              refine W.eq (g2 := F0 Mi 83 ls [.int (m_bgM (((10 * nu1) + (m_sgM tx n i)) - 48) p1 p2)]) rfl ?_
              refine lv_if_eq (tgt := 118) hx hb dX10_readsNumber_83 (by decide) (fun c_83 => ?_) (fun c_83 => ?_)
              · refine lv_aload_n hx hb dX10_readsNumber_118 rfl (lv_at hl 0 rfl) ?_
                refine va_get (D := E.1) (ci := 9) (v := .int y) (C := RX10) (T := TX10) (N := 11) hx hb hts hi_X10 hown hK.1 hP 0 rfl rfl 6 (by decide) (hts (.fieldLink RX10 115 "AltimeterWatchModel" "at" "I") (by decide +kernel)) (fun _ h9 => h9) rfl dX10_readsNumber_119 ?_
                refine lv_iload_n hx hb dX10_readsNumber_122 rfl (lv_at hl 3 rfl) ?_
                refine lv_icmp_le (tgt := 142) hx hb dX10_readsNumber_123 (by decide) (fun c_123 => ?_) (fun c_123 => ?_)
                · refine lv_iconst (v := 0) hx hb dX10_readsNumber_142 (by decide) ?_
                  refine z_topi (y := m_rnV tx n i0 p1 p2) (by have eR : m_rnR tx n i0 p1 p2 = (i, nu1) := (by rw [h5, show 61 + i0 - i = 61 + i0 - i - 1 + 1 by omega, m_rnL, ← hy, if_pos (by rw [m_rnC, if_neg c_21, if_neg c_29, if_neg c_36]; exact c_83)]); rw [m_rnV, eR, if_neg (show ¬ i0 < i from (by have := nI_len (a := i) (b := i0) (by omega) (by omega) (by rw [← hat, ← hy]; exact c_123); omega))]) ?_
                  have hP : va_P E.1 vwCl ([[(h0, .inr (9, [.int th, .ref k1, .int sd, .ref k2, .ref k3, .int ln, .int y, .int pt, .int mi, .int nu1, .long ha]))], [(k3, .inl (E.2 0, 60, .inl tx))]] : List va_W).flatten H := zf_sub hP [0, 1] rfl
                  have hD : va_D A ([[(h0, .inr (9, [.int th, .ref k1, .int sd, .ref k2, .ref k3, .int ln, .int y, .int pt, .int mi, .int nu1, .long ha]))], [(k3, .inl (E.2 0, 60, .inl tx))]] : List va_W).flatten := zf_subD hD [0, 1] (by decide) rfl
                  exact W.zret (v := m_rnV tx n i0 p1 p2) hx hb hr (z_bool (m_rnV01 _ _ _ _ _)) (z_end hP hD hS (by have eR : m_rnR tx n i0 p1 p2 = (i, nu1) := (by rw [h5, show 61 + i0 - i = 61 + i0 - i - 1 + 1 by omega, m_rnL, ← hy, if_pos (by rw [m_rnC, if_neg c_21, if_neg c_29, if_neg c_36]; exact c_83)]); rw [eR, hy])) hS.2.2 dX10_readsNumber_143 hlocks
                · refine lv_aload_n hx hb dX10_readsNumber_126 rfl (lv_at hl 0 rfl) ?_
                  refine va_get (D := E.1) (ci := 9) (v := .int nu1) (C := RX10) (T := TX10) (N := 11) hx hb hts hi_X10 hown hK.1 hP 0 rfl rfl 9 (by decide) (hts (.fieldLink RX10 121 "AltimeterWatchModel" "number" "I") (by decide +kernel)) (fun _ h9 => h9) rfl dX10_readsNumber_127 ?_
                  refine lv_iload_n hx hb dX10_readsNumber_130 rfl (lv_at hl 1 rfl) ?_
                  refine lv_iload_n hx hb dX10_readsNumber_131 rfl (lv_at hl 2 rfl) ?_
                  refine z_rdv (va_runS (As := [.int nu1, .int p1, .int p2]) (rest := []) ⟨hx, hb, hml, hown, hts⟩ (c_X10_in l E nu1 p1 p2) (va_cwS 3 hts gX10_readsNumber_X10_in rfl rfl rfl (by decide +kernel) ⟨Nat.le_of_ble_eq_true rfl, Nat.le_of_ble_eq_true rfl⟩) ⟨zPr.blind, z_prer hK zP_nil⟩ rfl rfl hl.1 rfl (lv_room (Nat.le_of_ble_eq_true rfl)) dX10_readsNumber_132 ⟨Nat.le_of_ble_eq_true rfl, Nat.le_of_ble_eq_true rfl⟩) ?_
                  refine W.eq (g2 := F0 Mi 135 ls [.int (m_in nu1 p1 p2)]) rfl ?_
                  refine lv_if_eq (tgt := 142) hx hb dX10_readsNumber_135 (by decide) (fun c_135 => ?_) (fun c_135 => ?_)
                  · refine lv_iconst (v := 0) hx hb dX10_readsNumber_142 (by decide) ?_
                    refine z_topi (y := m_rnV tx n i0 p1 p2) (by have eR : m_rnR tx n i0 p1 p2 = (i, nu1) := (by rw [h5, show 61 + i0 - i = 61 + i0 - i - 1 + 1 by omega, m_rnL, ← hy, if_pos (by rw [m_rnC, if_neg c_21, if_neg c_29, if_neg c_36]; exact c_83)]); rw [m_rnV, eR, if_pos (show i0 < i from (by have := nI_ltn (a := i0) (b := i) (by omega) (by omega) (by rw [← hat, ← hy]; exact Int32.not_le.mp c_123); exact this))]; exact c_135.symm) ?_
                    have hP : va_P E.1 vwCl ([[(h0, .inr (9, [.int th, .ref k1, .int sd, .ref k2, .ref k3, .int ln, .int y, .int pt, .int mi, .int nu1, .long ha]))], [(k3, .inl (E.2 0, 60, .inl tx))]] : List va_W).flatten H := zf_sub hP [0, 1] rfl
                    have hD : va_D A ([[(h0, .inr (9, [.int th, .ref k1, .int sd, .ref k2, .ref k3, .int ln, .int y, .int pt, .int mi, .int nu1, .long ha]))], [(k3, .inl (E.2 0, 60, .inl tx))]] : List va_W).flatten := zf_subD hD [0, 1] (by decide) rfl
                    exact W.zret (v := m_rnV tx n i0 p1 p2) hx hb hr (z_bool (m_rnV01 _ _ _ _ _)) (z_end hP hD hS (by have eR : m_rnR tx n i0 p1 p2 = (i, nu1) := (by rw [h5, show 61 + i0 - i = 61 + i0 - i - 1 + 1 by omega, m_rnL, ← hy, if_pos (by rw [m_rnC, if_neg c_21, if_neg c_29, if_neg c_36]; exact c_83)]); rw [eR, hy])) hS.2.2 dX10_readsNumber_143 hlocks
                  · refine lv_iconst (v := 1) hx hb dX10_readsNumber_138 (by decide) ?_
                    refine lv_goto (tgt := 143) hx hb dX10_readsNumber_139 (by decide) ?_
                    refine z_topi (y := m_rnV tx n i0 p1 p2) (by have eR : m_rnR tx n i0 p1 p2 = (i, nu1) := (by rw [h5, show 61 + i0 - i = 61 + i0 - i - 1 + 1 by omega, m_rnL, ← hy, if_pos (by rw [m_rnC, if_neg c_21, if_neg c_29, if_neg c_36]; exact c_83)]); rw [m_rnV, eR, if_pos (show i0 < i from (by have := nI_ltn (a := i0) (b := i) (by omega) (by omega) (by rw [← hat, ← hy]; exact Int32.not_le.mp c_123); exact this))]; exact ((m_in01 _ _ _).resolve_left c_135).symm) ?_
                    have hP : va_P E.1 vwCl ([[(h0, .inr (9, [.int th, .ref k1, .int sd, .ref k2, .ref k3, .int ln, .int y, .int pt, .int mi, .int nu1, .long ha]))], [(k3, .inl (E.2 0, 60, .inl tx))]] : List va_W).flatten H := zf_sub hP [0, 1] rfl
                    have hD : va_D A ([[(h0, .inr (9, [.int th, .ref k1, .int sd, .ref k2, .ref k3, .int ln, .int y, .int pt, .int mi, .int nu1, .long ha]))], [(k3, .inl (E.2 0, 60, .inl tx))]] : List va_W).flatten := zf_subD hD [0, 1] (by decide) rfl
                    exact W.zret (v := m_rnV tx n i0 p1 p2) hx hb hr (z_bool (m_rnV01 _ _ _ _ _)) (z_end hP hD hS (by have eR : m_rnR tx n i0 p1 p2 = (i, nu1) := (by rw [h5, show 61 + i0 - i = 61 + i0 - i - 1 + 1 by omega, m_rnL, ← hy, if_pos (by rw [m_rnC, if_neg c_21, if_neg c_29, if_neg c_36]; exact c_83)]); rw [eR, hy])) hS.2.2 dX10_readsNumber_143 hlocks
              · refine lv_aload_n hx hb dX10_readsNumber_86 rfl (lv_at hl 0 rfl) ?_
                refine lv_bipush (v := 10) hx hb dX10_readsNumber_87 (by decide) ?_
                refine lv_aload_n hx hb dX10_readsNumber_89 rfl (lv_at hl 0 rfl) ?_
                refine va_get (D := E.1) (ci := 9) (v := .int nu1) (C := RX10) (T := TX10) (N := 11) hx hb hts hi_X10 hown hK.1 hP 0 rfl rfl 9 (by decide) (hts (.fieldLink RX10 121 "AltimeterWatchModel" "number" "I") (by decide +kernel)) (fun _ h9 => h9) rfl dX10_readsNumber_90 ?_
                refine lv_imul hx hb dX10_readsNumber_93 ?_
                refine lv_aload_n hx hb dX10_readsNumber_94 rfl (lv_at hl 0 rfl) ?_
                have hPc : va_P E.1 vwCl ([[(h0, .inr (9, [.int th, .ref k1, .int sd, .ref k2, .ref k3, .int ln, .int y, .int pt, .int mi, .int nu1, .long ha]))], [(k3, .inl (E.2 0, 60, .inl tx))]] : List va_W).flatten H := zf_sub hP [0, 1] rfl
                refine z_rdv (va_runV (As := []) (rest := [.int (10 * nu1), .ref h0]) ⟨hx, hb, hml, hown, hts⟩ (c_X10_sign l E h0 k1 k2 k3 th sd ln y pt mi nu1 ha tx n i hln hn hy hi) (cwV 0 hts gX10_readsNumber_X10_sign rfl rfl rfl (by decide +kernel) ⟨Nat.le_of_ble_eq_true rfl, Nat.le_of_ble_eq_true rfl⟩) ⟨zPr.blind, va_recv hK.1 hPc (ci := 9) (q0 := 0) rfl rfl, z_prer hK hPc⟩ rfl rfl hl.1 rfl (lv_room (Nat.le_of_ble_eq_true rfl)) dX10_readsNumber_95 ⟨Nat.le_of_ble_eq_true rfl, Nat.le_of_ble_eq_true rfl⟩) ?_
                refine W.eq (g2 := F0 Mi 98 ls [.int (m_sgM tx n i), .int (10 * nu1), .ref h0]) rfl ?_
                refine lv_iadd hx hb dX10_readsNumber_98 ?_
                refine lv_bipush (v := 48) hx hb dX10_readsNumber_99 (by decide) ?_
                refine lv_isub hx hb dX10_readsNumber_101 ?_
                refine lv_topi (fun f_5 ef_5 => ?_)
                refine va_put (D := E.1) (ci := 9) (v := .int f_5) (ty := .int) (C := RX10) (T := TX10) (N := 11) hx hb hts hi_X10 tyX10 tyX10_ok nmX10 hown hK.1 hP hD hS 0 rfl rfl 9 (by decide) (hts (.fieldLink RX10 121 "AltimeterWatchModel" "number" "I") (by decide +kernel)) (fun _ h9 => h9) rfl (by decide +kernel) rfl rfl (Nat.le_of_ble_eq_true rfl) dX10_readsNumber_102 (fun H locs hP hD hS => ?_)
                have hP : va_P E.1 vwCl ([[(h0, .inr (9, [.int th, .ref k1, .int sd, .ref k2, .ref k3, .int ln, .int y, .int pt, .int mi, .int f_5, .long ha]))], [(k3, .inl (E.2 0, 60, .inl tx))]] : List va_W).flatten H := hP
                have hD : va_D A ([[(h0, .inr (9, [.int th, .ref k1, .int sd, .ref k2, .ref k3, .int ln, .int y, .int pt, .int mi, .int f_5, .long ha]))], [(k3, .inl (E.2 0, 60, .inl tx))]] : List va_W).flatten := hD
                refine lv_aload_n hx hb dX10_readsNumber_105 rfl (lv_at hl 0 rfl) ?_
                refine lv_dup hx hb dX10_readsNumber_106 rfl ?_
                refine va_get (D := E.1) (ci := 9) (v := .int y) (C := RX10) (T := TX10) (N := 11) hx hb hts hi_X10 hown hK.1 hP 0 rfl rfl 6 (by decide) (hts (.fieldLink RX10 115 "AltimeterWatchModel" "at" "I") (by decide +kernel)) (fun _ h9 => h9) rfl dX10_readsNumber_107 ?_
                refine lv_iconst (v := 1) hx hb dX10_readsNumber_110 (by decide) ?_
                refine lv_iadd hx hb dX10_readsNumber_111 ?_
                refine lv_topi (fun f_6 ef_6 => ?_)
                refine va_put (D := E.1) (ci := 9) (v := .int f_6) (ty := .int) (C := RX10) (T := TX10) (N := 11) hx hb hts hi_X10 tyX10 tyX10_ok nmX10 hown hK.1 hP hD hS 0 rfl rfl 6 (by decide) (hts (.fieldLink RX10 115 "AltimeterWatchModel" "at" "I") (by decide +kernel)) (fun _ h9 => h9) rfl (by decide +kernel) rfl rfl (Nat.le_of_ble_eq_true rfl) dX10_readsNumber_112 (fun H locs hP hD hS => ?_)
                have hP : va_P E.1 vwCl ([[(h0, .inr (9, [.int th, .ref k1, .int sd, .ref k2, .ref k3, .int ln, .int f_6, .int pt, .int mi, .int f_5, .long ha]))], [(k3, .inl (E.2 0, 60, .inl tx))]] : List va_W).flatten H := hP
                have hD : va_D A ([[(h0, .inr (9, [.int th, .ref k1, .int sd, .ref k2, .ref k3, .int ln, .int f_6, .int pt, .int mi, .int f_5, .long ha]))], [(k3, .inl (E.2 0, 60, .inl tx))]] : List va_W).flatten := hD
                refine lv_goto (tgt := 10) hx hb dX10_readsNumber_115 (by decide) ?_
                exact ih (i + 1) (10 * w + dg) f_6 f_5 (by omega) (by have := hlt; omega) (by omega) (by rw [ef_6, hy]; exact nI_1 i) (by rw [ef_5]; exact hv) (by have q := m_bg_le c_83; rw [hv, hmm] at q; have := nI_len (a := 10 * w + dg) (b := mm) (by omega) (by omega) q; omega) (by rw [h5, show 61 + i0 - i = 61 + i0 - (i + 1) + 1 by omega, m_rnL, ← hy, if_neg (by rw [m_rnC, if_neg c_21, if_neg c_29, if_neg c_36]; exact c_83), ← ef_5]) (fun h9 => absurd h9 (by rw [ef_6, hy, hat, nI_1]; intro h8; have a1 := m_n_nI (n := i + 1) (by omega); have a2 := m_n_nI (n := i0) (by omega); rw [h8] at a1; omega)) _ _ (zf_sub hP [0, 1] rfl) (zf_subD hD [0, 1] (by decide) rfl) hS ls (lv_sub hl [0, 1, 2, 3] rfl)
            · refine lv_aload_n hx hb dX10_readsNumber_48 rfl (lv_at hl 0 rfl) ?_
              refine va_get (D := E.1) (ci := 9) (v := .int y) (C := RX10) (T := TX10) (N := 11) hx hb hts hi_X10 hown hK.1 hP 0 rfl rfl 6 (by decide) (hts (.fieldLink RX10 115 "AltimeterWatchModel" "at" "I") (by decide +kernel)) (fun _ h9 => h9) rfl dX10_readsNumber_49 ?_
              refine lv_iload_n hx hb dX10_readsNumber_52 rfl (lv_at hl 3 rfl) ?_
              refine lv_icmp_ne (tgt := 63) hx hb dX10_readsNumber_53 (by decide) (fun _ => ?_) (fun h9 => absurd h9 (c_29))
              have hv1 : 1 ≤ 10 * w + dg := (Nat.eq_zero_or_pos w).elim (fun q => absurd (by rw [hw, q]; decide) c_36) (fun q => by omega)
              refine lv_bipush (v := 10) hx hb dX10_readsNumber_63 (by decide) ?_
              refine lv_aload_n hx hb dX10_readsNumber_65 rfl (lv_at hl 0 rfl) ?_
              refine va_get (D := E.1) (ci := 9) (v := .int nu1) (C := RX10) (T := TX10) (N := 11) hx hb hts hi_X10 hown hK.1 hP 0 rfl rfl 9 (by decide) (hts (.fieldLink RX10 121 "AltimeterWatchModel" "number" "I") (by decide +kernel)) (fun _ h9 => h9) rfl dX10_readsNumber_66 ?_
              refine lv_imul hx hb dX10_readsNumber_69 ?_
              refine lv_aload_n hx hb dX10_readsNumber_70 rfl (lv_at hl 0 rfl) ?_
              have hPc : va_P E.1 vwCl ([[(h0, .inr (9, [.int th, .ref k1, .int sd, .ref k2, .ref k3, .int ln, .int y, .int pt, .int mi, .int nu1, .long ha]))], [(k3, .inl (E.2 0, 60, .inl tx))]] : List va_W).flatten H := zf_sub hP [0, 1] rfl
              refine z_rdv (va_runV (As := []) (rest := [.int (10 * nu1)]) ⟨hx, hb, hml, hown, hts⟩ (c_X10_sign l E h0 k1 k2 k3 th sd ln y pt mi nu1 ha tx n i hln hn hy hi) (cwV 0 hts gX10_readsNumber_X10_sign rfl rfl rfl (by decide +kernel) ⟨Nat.le_of_ble_eq_true rfl, Nat.le_of_ble_eq_true rfl⟩) ⟨zPr.blind, va_recv hK.1 hPc (ci := 9) (q0 := 0) rfl rfl, z_prer hK hPc⟩ rfl rfl hl.1 rfl (lv_room (Nat.le_of_ble_eq_true rfl)) dX10_readsNumber_71 ⟨Nat.le_of_ble_eq_true rfl, Nat.le_of_ble_eq_true rfl⟩) ?_
              refine W.eq (g2 := F0 Mi 74 ls [.int (m_sgM tx n i), .int (10 * nu1)]) rfl ?_
              refine lv_iadd hx hb dX10_readsNumber_74 ?_
              refine lv_bipush (v := 48) hx hb dX10_readsNumber_75 (by decide) ?_
              refine lv_isub hx hb dX10_readsNumber_77 ?_
              refine lv_iload_n hx hb dX10_readsNumber_78 rfl (lv_at hl 1 rfl) ?_
              refine lv_iload_n hx hb dX10_readsNumber_79 rfl (lv_at hl 2 rfl) ?_
              refine z_rdv (va_runS (As := [.int (((10 * nu1) + (m_sgM tx n i)) - 48), .int p1, .int p2]) (rest := []) ⟨hx, hb, hml, hown, hts⟩ (c_X10_begins l E (((10 * nu1) + (m_sgM tx n i)) - 48) p1 p2 (10 * w + dg) mm hv hv1 (by omega) hmm (by omega)) (va_cwS 3 hts gX10_readsNumber_X10_begins rfl rfl rfl (by decide +kernel) ⟨Nat.le_of_ble_eq_true rfl, Nat.le_of_ble_eq_true rfl⟩) ⟨zPr.blind, z_prer hK zP_nil⟩ rfl rfl hl.1 rfl (lv_room (Nat.le_of_ble_eq_true rfl)) dX10_readsNumber_80 ⟨Nat.le_of_ble_eq_true rfl, Nat.le_of_ble_eq_true rfl⟩) ?_
              refine W.eq (g2 := F0 Mi 83 ls [.int (m_bgM (((10 * nu1) + (m_sgM tx n i)) - 48) p1 p2)]) rfl ?_
              refine lv_if_eq (tgt := 118) hx hb dX10_readsNumber_83 (by decide) (fun c_83 => ?_) (fun c_83 => ?_)
              · refine lv_aload_n hx hb dX10_readsNumber_118 rfl (lv_at hl 0 rfl) ?_
                refine va_get (D := E.1) (ci := 9) (v := .int y) (C := RX10) (T := TX10) (N := 11) hx hb hts hi_X10 hown hK.1 hP 0 rfl rfl 6 (by decide) (hts (.fieldLink RX10 115 "AltimeterWatchModel" "at" "I") (by decide +kernel)) (fun _ h9 => h9) rfl dX10_readsNumber_119 ?_
                refine lv_iload_n hx hb dX10_readsNumber_122 rfl (lv_at hl 3 rfl) ?_
                refine lv_icmp_le (tgt := 142) hx hb dX10_readsNumber_123 (by decide) (fun c_123 => ?_) (fun c_123 => ?_)
                · refine lv_iconst (v := 0) hx hb dX10_readsNumber_142 (by decide) ?_
                  refine z_topi (y := m_rnV tx n i0 p1 p2) (by have eR : m_rnR tx n i0 p1 p2 = (i, nu1) := (by rw [h5, show 61 + i0 - i = 61 + i0 - i - 1 + 1 by omega, m_rnL, ← hy, if_pos (by rw [m_rnC, if_neg c_21, if_neg c_29, if_neg c_36]; exact c_83)]); rw [m_rnV, eR, if_neg (show ¬ i0 < i from (by have := nI_len (a := i) (b := i0) (by omega) (by omega) (by rw [← hat, ← hy]; exact c_123); omega))]) ?_
                  have hP : va_P E.1 vwCl ([[(h0, .inr (9, [.int th, .ref k1, .int sd, .ref k2, .ref k3, .int ln, .int y, .int pt, .int mi, .int nu1, .long ha]))], [(k3, .inl (E.2 0, 60, .inl tx))]] : List va_W).flatten H := zf_sub hP [0, 1] rfl
                  have hD : va_D A ([[(h0, .inr (9, [.int th, .ref k1, .int sd, .ref k2, .ref k3, .int ln, .int y, .int pt, .int mi, .int nu1, .long ha]))], [(k3, .inl (E.2 0, 60, .inl tx))]] : List va_W).flatten := zf_subD hD [0, 1] (by decide) rfl
                  exact W.zret (v := m_rnV tx n i0 p1 p2) hx hb hr (z_bool (m_rnV01 _ _ _ _ _)) (z_end hP hD hS (by have eR : m_rnR tx n i0 p1 p2 = (i, nu1) := (by rw [h5, show 61 + i0 - i = 61 + i0 - i - 1 + 1 by omega, m_rnL, ← hy, if_pos (by rw [m_rnC, if_neg c_21, if_neg c_29, if_neg c_36]; exact c_83)]); rw [eR, hy])) hS.2.2 dX10_readsNumber_143 hlocks
                · refine lv_aload_n hx hb dX10_readsNumber_126 rfl (lv_at hl 0 rfl) ?_
                  refine va_get (D := E.1) (ci := 9) (v := .int nu1) (C := RX10) (T := TX10) (N := 11) hx hb hts hi_X10 hown hK.1 hP 0 rfl rfl 9 (by decide) (hts (.fieldLink RX10 121 "AltimeterWatchModel" "number" "I") (by decide +kernel)) (fun _ h9 => h9) rfl dX10_readsNumber_127 ?_
                  refine lv_iload_n hx hb dX10_readsNumber_130 rfl (lv_at hl 1 rfl) ?_
                  refine lv_iload_n hx hb dX10_readsNumber_131 rfl (lv_at hl 2 rfl) ?_
                  refine z_rdv (va_runS (As := [.int nu1, .int p1, .int p2]) (rest := []) ⟨hx, hb, hml, hown, hts⟩ (c_X10_in l E nu1 p1 p2) (va_cwS 3 hts gX10_readsNumber_X10_in rfl rfl rfl (by decide +kernel) ⟨Nat.le_of_ble_eq_true rfl, Nat.le_of_ble_eq_true rfl⟩) ⟨zPr.blind, z_prer hK zP_nil⟩ rfl rfl hl.1 rfl (lv_room (Nat.le_of_ble_eq_true rfl)) dX10_readsNumber_132 ⟨Nat.le_of_ble_eq_true rfl, Nat.le_of_ble_eq_true rfl⟩) ?_
                  refine W.eq (g2 := F0 Mi 135 ls [.int (m_in nu1 p1 p2)]) rfl ?_
                  refine lv_if_eq (tgt := 142) hx hb dX10_readsNumber_135 (by decide) (fun c_135 => ?_) (fun c_135 => ?_)
                  · refine lv_iconst (v := 0) hx hb dX10_readsNumber_142 (by decide) ?_
                    refine z_topi (y := m_rnV tx n i0 p1 p2) (by have eR : m_rnR tx n i0 p1 p2 = (i, nu1) := (by rw [h5, show 61 + i0 - i = 61 + i0 - i - 1 + 1 by omega, m_rnL, ← hy, if_pos (by rw [m_rnC, if_neg c_21, if_neg c_29, if_neg c_36]; exact c_83)]); rw [m_rnV, eR, if_pos (show i0 < i from (by have := nI_ltn (a := i0) (b := i) (by omega) (by omega) (by rw [← hat, ← hy]; exact Int32.not_le.mp c_123); exact this))]; exact c_135.symm) ?_
                    have hP : va_P E.1 vwCl ([[(h0, .inr (9, [.int th, .ref k1, .int sd, .ref k2, .ref k3, .int ln, .int y, .int pt, .int mi, .int nu1, .long ha]))], [(k3, .inl (E.2 0, 60, .inl tx))]] : List va_W).flatten H := zf_sub hP [0, 1] rfl
                    have hD : va_D A ([[(h0, .inr (9, [.int th, .ref k1, .int sd, .ref k2, .ref k3, .int ln, .int y, .int pt, .int mi, .int nu1, .long ha]))], [(k3, .inl (E.2 0, 60, .inl tx))]] : List va_W).flatten := zf_subD hD [0, 1] (by decide) rfl
                    exact W.zret (v := m_rnV tx n i0 p1 p2) hx hb hr (z_bool (m_rnV01 _ _ _ _ _)) (z_end hP hD hS (by have eR : m_rnR tx n i0 p1 p2 = (i, nu1) := (by rw [h5, show 61 + i0 - i = 61 + i0 - i - 1 + 1 by omega, m_rnL, ← hy, if_pos (by rw [m_rnC, if_neg c_21, if_neg c_29, if_neg c_36]; exact c_83)]); rw [eR, hy])) hS.2.2 dX10_readsNumber_143 hlocks
                  · refine lv_iconst (v := 1) hx hb dX10_readsNumber_138 (by decide) ?_
                    refine lv_goto (tgt := 143) hx hb dX10_readsNumber_139 (by decide) ?_
                    refine z_topi (y := m_rnV tx n i0 p1 p2) (by have eR : m_rnR tx n i0 p1 p2 = (i, nu1) := (by rw [h5, show 61 + i0 - i = 61 + i0 - i - 1 + 1 by omega, m_rnL, ← hy, if_pos (by rw [m_rnC, if_neg c_21, if_neg c_29, if_neg c_36]; exact c_83)]); rw [m_rnV, eR, if_pos (show i0 < i from (by have := nI_ltn (a := i0) (b := i) (by omega) (by omega) (by rw [← hat, ← hy]; exact Int32.not_le.mp c_123); exact this))]; exact ((m_in01 _ _ _).resolve_left c_135).symm) ?_
                    have hP : va_P E.1 vwCl ([[(h0, .inr (9, [.int th, .ref k1, .int sd, .ref k2, .ref k3, .int ln, .int y, .int pt, .int mi, .int nu1, .long ha]))], [(k3, .inl (E.2 0, 60, .inl tx))]] : List va_W).flatten H := zf_sub hP [0, 1] rfl
                    have hD : va_D A ([[(h0, .inr (9, [.int th, .ref k1, .int sd, .ref k2, .ref k3, .int ln, .int y, .int pt, .int mi, .int nu1, .long ha]))], [(k3, .inl (E.2 0, 60, .inl tx))]] : List va_W).flatten := zf_subD hD [0, 1] (by decide) rfl
                    exact W.zret (v := m_rnV tx n i0 p1 p2) hx hb hr (z_bool (m_rnV01 _ _ _ _ _)) (z_end hP hD hS (by have eR : m_rnR tx n i0 p1 p2 = (i, nu1) := (by rw [h5, show 61 + i0 - i = 61 + i0 - i - 1 + 1 by omega, m_rnL, ← hy, if_pos (by rw [m_rnC, if_neg c_21, if_neg c_29, if_neg c_36]; exact c_83)]); rw [eR, hy])) hS.2.2 dX10_readsNumber_143 hlocks
              · refine lv_aload_n hx hb dX10_readsNumber_86 rfl (lv_at hl 0 rfl) ?_
                refine lv_bipush (v := 10) hx hb dX10_readsNumber_87 (by decide) ?_
                refine lv_aload_n hx hb dX10_readsNumber_89 rfl (lv_at hl 0 rfl) ?_
                refine va_get (D := E.1) (ci := 9) (v := .int nu1) (C := RX10) (T := TX10) (N := 11) hx hb hts hi_X10 hown hK.1 hP 0 rfl rfl 9 (by decide) (hts (.fieldLink RX10 121 "AltimeterWatchModel" "number" "I") (by decide +kernel)) (fun _ h9 => h9) rfl dX10_readsNumber_90 ?_
                refine lv_imul hx hb dX10_readsNumber_93 ?_
                refine lv_aload_n hx hb dX10_readsNumber_94 rfl (lv_at hl 0 rfl) ?_
                have hPc : va_P E.1 vwCl ([[(h0, .inr (9, [.int th, .ref k1, .int sd, .ref k2, .ref k3, .int ln, .int y, .int pt, .int mi, .int nu1, .long ha]))], [(k3, .inl (E.2 0, 60, .inl tx))]] : List va_W).flatten H := zf_sub hP [0, 1] rfl
                refine z_rdv (va_runV (As := []) (rest := [.int (10 * nu1), .ref h0]) ⟨hx, hb, hml, hown, hts⟩ (c_X10_sign l E h0 k1 k2 k3 th sd ln y pt mi nu1 ha tx n i hln hn hy hi) (cwV 0 hts gX10_readsNumber_X10_sign rfl rfl rfl (by decide +kernel) ⟨Nat.le_of_ble_eq_true rfl, Nat.le_of_ble_eq_true rfl⟩) ⟨zPr.blind, va_recv hK.1 hPc (ci := 9) (q0 := 0) rfl rfl, z_prer hK hPc⟩ rfl rfl hl.1 rfl (lv_room (Nat.le_of_ble_eq_true rfl)) dX10_readsNumber_95 ⟨Nat.le_of_ble_eq_true rfl, Nat.le_of_ble_eq_true rfl⟩) ?_
                refine W.eq (g2 := F0 Mi 98 ls [.int (m_sgM tx n i), .int (10 * nu1), .ref h0]) rfl ?_
                refine lv_iadd hx hb dX10_readsNumber_98 ?_
                refine lv_bipush (v := 48) hx hb dX10_readsNumber_99 (by decide) ?_
                refine lv_isub hx hb dX10_readsNumber_101 ?_
                refine lv_topi (fun f_7 ef_7 => ?_)
                refine va_put (D := E.1) (ci := 9) (v := .int f_7) (ty := .int) (C := RX10) (T := TX10) (N := 11) hx hb hts hi_X10 tyX10 tyX10_ok nmX10 hown hK.1 hP hD hS 0 rfl rfl 9 (by decide) (hts (.fieldLink RX10 121 "AltimeterWatchModel" "number" "I") (by decide +kernel)) (fun _ h9 => h9) rfl (by decide +kernel) rfl rfl (Nat.le_of_ble_eq_true rfl) dX10_readsNumber_102 (fun H locs hP hD hS => ?_)
                have hP : va_P E.1 vwCl ([[(h0, .inr (9, [.int th, .ref k1, .int sd, .ref k2, .ref k3, .int ln, .int y, .int pt, .int mi, .int f_7, .long ha]))], [(k3, .inl (E.2 0, 60, .inl tx))]] : List va_W).flatten H := hP
                have hD : va_D A ([[(h0, .inr (9, [.int th, .ref k1, .int sd, .ref k2, .ref k3, .int ln, .int y, .int pt, .int mi, .int f_7, .long ha]))], [(k3, .inl (E.2 0, 60, .inl tx))]] : List va_W).flatten := hD
                refine lv_aload_n hx hb dX10_readsNumber_105 rfl (lv_at hl 0 rfl) ?_
                refine lv_dup hx hb dX10_readsNumber_106 rfl ?_
                refine va_get (D := E.1) (ci := 9) (v := .int y) (C := RX10) (T := TX10) (N := 11) hx hb hts hi_X10 hown hK.1 hP 0 rfl rfl 6 (by decide) (hts (.fieldLink RX10 115 "AltimeterWatchModel" "at" "I") (by decide +kernel)) (fun _ h9 => h9) rfl dX10_readsNumber_107 ?_
                refine lv_iconst (v := 1) hx hb dX10_readsNumber_110 (by decide) ?_
                refine lv_iadd hx hb dX10_readsNumber_111 ?_
                refine lv_topi (fun f_8 ef_8 => ?_)
                refine va_put (D := E.1) (ci := 9) (v := .int f_8) (ty := .int) (C := RX10) (T := TX10) (N := 11) hx hb hts hi_X10 tyX10 tyX10_ok nmX10 hown hK.1 hP hD hS 0 rfl rfl 6 (by decide) (hts (.fieldLink RX10 115 "AltimeterWatchModel" "at" "I") (by decide +kernel)) (fun _ h9 => h9) rfl (by decide +kernel) rfl rfl (Nat.le_of_ble_eq_true rfl) dX10_readsNumber_112 (fun H locs hP hD hS => ?_)
                have hP : va_P E.1 vwCl ([[(h0, .inr (9, [.int th, .ref k1, .int sd, .ref k2, .ref k3, .int ln, .int f_8, .int pt, .int mi, .int f_7, .long ha]))], [(k3, .inl (E.2 0, 60, .inl tx))]] : List va_W).flatten H := hP
                have hD : va_D A ([[(h0, .inr (9, [.int th, .ref k1, .int sd, .ref k2, .ref k3, .int ln, .int f_8, .int pt, .int mi, .int f_7, .long ha]))], [(k3, .inl (E.2 0, 60, .inl tx))]] : List va_W).flatten := hD
                refine lv_goto (tgt := 10) hx hb dX10_readsNumber_115 (by decide) ?_
                exact ih (i + 1) (10 * w + dg) f_8 f_7 (by omega) (by have := hlt; omega) (by omega) (by rw [ef_8, hy]; exact nI_1 i) (by rw [ef_7]; exact hv) (by have q := m_bg_le c_83; rw [hv, hmm] at q; have := nI_len (a := 10 * w + dg) (b := mm) (by omega) (by omega) q; omega) (by rw [h5, show 61 + i0 - i = 61 + i0 - (i + 1) + 1 by omega, m_rnL, ← hy, if_neg (by rw [m_rnC, if_neg c_21, if_neg c_29, if_neg c_36]; exact c_83), ← ef_7]) (fun h9 => absurd h9 (by rw [ef_8, hy, hat, nI_1]; intro h8; have a1 := m_n_nI (n := i + 1) (by omega); have a2 := m_n_nI (n := i0) (by omega); rw [h8] at a1; omega)) _ _ (zf_sub hP [0, 1] rfl) (zf_subD hD [0, 1] (by decide) rfl) hS ls (lv_sub hl [0, 1, 2, 3] rfl)
  refine lv_aload_n hx hb dX10_readsNumber_0 rfl (lv_at hl 0 rfl) ?_
  refine lv_iconst (v := 0) hx hb dX10_readsNumber_1 (by decide) ?_
  refine va_put (D := E.1) (ci := 9) (v := .int 0) (ty := .int) (C := RX10) (T := TX10) (N := 11) hx hb hts hi_X10 tyX10 tyX10_ok nmX10 hown hK.1 hP hD hS 0 rfl rfl 9 (by decide) (hts (.fieldLink RX10 121 "AltimeterWatchModel" "number" "I") (by decide +kernel)) (fun _ h9 => h9) rfl (by decide +kernel) rfl rfl (Nat.le_of_ble_eq_true rfl) dX10_readsNumber_2 (fun H locs hP hD hS => ?_)
  have hP : va_P E.1 vwCl ([[(h0, .inr (9, [.int th, .ref k1, .int sd, .ref k2, .ref k3, .int ln, .int at0, .int pt, .int mi, .int 0, .long ha]))], [(k3, .inl (E.2 0, 60, .inl tx))]] : List va_W).flatten H := hP
  have hD : va_D A ([[(h0, .inr (9, [.int th, .ref k1, .int sd, .ref k2, .ref k3, .int ln, .int at0, .int pt, .int mi, .int 0, .long ha]))], [(k3, .inl (E.2 0, 60, .inl tx))]] : List va_W).flatten := hD
  refine lv_aload_n hx hb dX10_readsNumber_5 rfl (lv_at hl 0 rfl) ?_
  refine va_get (D := E.1) (ci := 9) (v := .int at0) (C := RX10) (T := TX10) (N := 11) hx hb hts hi_X10 hown hK.1 hP 0 rfl rfl 6 (by decide) (hts (.fieldLink RX10 115 "AltimeterWatchModel" "at" "I") (by decide +kernel)) (fun _ h9 => h9) rfl dX10_readsNumber_6 ?_
  refine lv_istore_n (lv' := [(3, .int at0), (0, .ref h0), (1, .int p1), (2, .int p2)]) hx hb dX10_readsNumber_9 rfl hl (by decide) rfl (fun ls hl => ?_)
  exact LOOP_10 61 i0 0 at0 0 (by omega) hi (by omega) hat rfl (by omega) (by rw [m_rnR, hat, show 61 + i0 - i0 = 61 by omega]) (fun _ => rfl) _ _ (zf_sub hP [0, 1] rfl) (zf_subD hD [0, 1] (by decide) rfl) hS ls (lv_sub hl [1, 2, 3, 0] rfl)
