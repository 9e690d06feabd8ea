def m_hrM (sv : Nat → Int32) (m : Nat) (h : Int64) : Int64 :=
  m_mix (m_mix (m_mix (m_mix (m_mix (m_mix (m_mix (m_mix (m_mix (m_mix (m_mix (m_mix (m_mix (m_mix h (sv 2)) (sv 0)) (m_std (sv (0 + 0)) - m_std (sv (0 + 1)))) (sv 4)) (sv 1)) (sv 5)) (sv 6)) (sv 7)) (sv 8)) (sv 9)) (sv 14)) (m_fallM sv 0 m)) (sv 12)) (m_alM sv 0 m)
def m_hmM (sv : Nat → Int32) (h : Int64) : Nat → Int64
  | 0 => m_mix h (sv 75)
  | i + 1 => m_mix (m_mix (m_mix (m_hmM sv h i) (sv (76 + (4 * i)))) (sv ((76 + (4 * i)) + 1))) (sv ((76 + (4 * i)) + 2) - sv 78)
def m_dgM (sv : Nat → Int32) (m c : Nat) : Int64 := m_mix (m_mix (m_hmM sv (m_hrM sv m 4369) c) (m_dnM 1000 (m_std (sv 1)) 6001)) (m_uaV sv m 5)

set_option maxHeartbeats 4000000 in
set_option maxRecDepth 100000 in
theorem c_X10_digest (l : Launch) (E : zE) (h0 k1 k2 k3 : Nat) (th sd ln at0 pt mi nu : Int32) (ha : Int64) (sv : Nat → Int32) (m : Nat) (hm : sv 14 = nI m) (hm6 : m ≤ 60) (c0 : Nat) (hc : sv 75 = nI c0) (hc9 : c0 ≤ 10) (pq : Nat) (hp0 : sv 0 = nI pq) (hp1 : 5000 ≤ pq) (hp2 : pq ≤ 11000) : zM l yX10_digest wsX10_digest ({ frames := 3, cells := 0, slots := 0, locals := 67 }) E [.ref h0] ([[(h0, .inr (9, [.int th, .ref k1, .int sd, .ref k2, .ref k3, .int ln, .int at0, .int pt, .int mi, .int nu, .long ha]))], [(k1, .inl (E.2 0, 1160, .inl sv))]] : List va_W).flatten (some (.long (m_dgM sv m c0))) ([[(h0, .inr (9, [.int 0, .ref k1, .int sd, .ref k2, .ref k3, .int ln, .int at0, .int pt, .int mi, .int nu, .long (m_dgM sv m c0)]))], [(k1, .inl (E.2 0, 1160, .inl (m_uaW sv m 5)))]] : List va_W).flatten 0 0 := by
  refine z_start (cc := cX10_digest) (maxL := 2) (ret := (some .long)) (by decide) rfl (Nat.le_of_ble_eq_true rfl) ?_
  intro Pg En s Mi below meth Cd A hx hb hr hts hown hlocks hin hml hA H hH hP hK hD hS ls hl
  have hl : lv_has ls 2 [(0, .ref h0)] := hl
  have hi_X10 : ∀ w ∈ wsX100, w ∈ wsX10_digest := by decide +kernel
  have LOOP_190 : ∀ (kz : Nat) (i : Nat) (x : Int32) (y : Int64), c0 < i + kz → i ≤ c0 → x = nI i → y = m_hmM sv (m_hrM sv m 4369) i →  ∀ (H : Heap) (locs : List Loc), va_P E.1 vwCl ([[(h0, .inr (9, [.int 0, .ref k1, .int sd, .ref k2, .ref k3, .int ln, .int at0, .int pt, .int mi, .int nu, .long y]))], [(k1, .inl (E.2 0, 1160, .inl sv))]] : List va_W).flatten H → va_D A ([[(h0, .inr (9, [.int 0, .ref k1, .int sd, .ref k2, .ref k3, .int ln, .int at0, .int pt, .int mi, .int nu, .long y]))], [(k1, .inl (E.2 0, 1160, .inl sv))]] : List va_W).flatten → va_S A s.heap H locs → ∀ (ls : Array Slot), lv_has ls 2 [(0, .ref h0), (1, .int x)] → W Pg l En ({ frames := 3, cells := 0, slots := 0, locals := 67 } : Room) s Mi ([.ref h0] : List Value).toArray below meth Cd H locs 0 0 (MQ below (zQ (some (.long (m_dgM sv m c0))) (zB E ([[(h0, .inr (9, [.int 0, .ref k1, .int sd, .ref k2, .ref k3, .int ln, .int at0, .int pt, .int mi, .int nu, .long (m_dgM sv m c0)]))], [(k1, .inl (E.2 0, 1160, .inl (m_uaW sv m 5)))]] : List va_W).flatten A) A) ([.ref h0] : List Value).toArray s 0 0 A) (F0 Mi 190 ls []) := by
    intro kz
    induction kz with
    | zero => intro i x y h1 h2 h3 h5; exact absurd h1 (by omega)
    | succ kz ih =>
      intro i x y h1 h2 h3 h5 H locs hP hD hS ls hl
      refine lv_iload_n hx hb dX10_digest_190 rfl (lv_at hl 1 rfl) ?_
      refine lv_aload_n hx hb dX10_digest_191 rfl (lv_at hl 0 rfl) ?_
      refine va_get (D := E.1) (ci := 9) (v := .ref k1) (C := RX10) (T := TX10) (N := 11) hx hb hts hi_X10 hown hK.1 hP 0 rfl rfl 1 (by decide) (hts (.fieldLink RX10 7 "AltimeterWatchModel" "s" "[I") (by decide +kernel)) (fun _ h9 => h9) rfl dX10_digest_192 ?_
      refine lv_bipush (v := 75) hx hb dX10_digest_195 (by decide) ?_
      refine z_iald (k := 75) hx hb hK.1 hP 1 rfl rfl (by decide) (by decide) dX10_digest_197 ?_
      refine lv_icmp_ge (tgt := 267) hx hb dX10_digest_198 (by decide) (fun c_198 => ?_) (fun c_198 => ?_)
      · refine lv_aload_n hx hb dX10_digest_267 rfl (lv_at hl 0 rfl) ?_
        refine lv_aload_n hx hb dX10_digest_268 rfl (lv_at hl 0 rfl) ?_
        refine lv_sipush (v := 1000) hx hb dX10_digest_269 (by decide) ?_
        have hPc : va_P E.1 vwCl ([[(h0, .inr (9, [.int 0, .ref k1, .int sd, .ref k2, .ref k3, .int ln, .int at0, .int pt, .int mi, .int nu, .long y]))], [(k1, .inl (E.2 0, 1160, .inl sv))]] : List va_W).flatten H := zf_sub hP [0, 1] rfl
        refine z_rdv (va_runV (As := [.int 1000]) (rest := [.ref h0]) ⟨hx, hb, hml, hown, hts⟩ (c_X10_pressureFor l E h0 k1 k2 k3 0 sd ln at0 pt mi nu y sv 1000) (cwV 1 hts gX10_digest_X10_pressureFor rfl rfl rfl (by decide +kernel) ⟨Nat.le_of_ble_eq_true rfl, Nat.le_of_ble_eq_true rfl⟩) ⟨zPr.blind, va_recv hK.1 hPc (ci := 9) (q0 := 0) rfl rfl, z_prer hK hPc⟩ rfl rfl hl.1 rfl (lv_room (Nat.le_of_ble_eq_true rfl)) dX10_digest_272 ⟨Nat.le_of_ble_eq_true rfl, Nat.le_of_ble_eq_true rfl⟩) ?_
        refine W.eq (g2 := F0 Mi 275 ls [.int (m_dnM 1000 (m_std (sv 1)) 6001), .ref h0]) rfl ?_
        refine lv_i2l hx hb dX10_digest_275 rfl ?_
        have hPc : va_P E.1 vwCl ([[(h0, .inr (9, [.int 0, .ref k1, .int sd, .ref k2, .ref k3, .int ln, .int at0, .int pt, .int mi, .int nu, .long y]))]] : List va_W).flatten H := zf_sub hP [0] rfl
        have hDc : va_D A ([[(h0, .inr (9, [.int 0, .ref k1, .int sd, .ref k2, .ref k3, .int ln, .int at0, .int pt, .int mi, .int nu, .long y]))]] : List va_W).flatten := zf_subD hD [0] (by decide) rfl
        refine z_mut (Sc := [[(h0, .inr (9, [.int 0, .ref k1, .int sd, .ref k2, .ref k3, .int ln, .int at0, .int pt, .int mi, .int nu, .long y]))]]) (Sr := [[(k1, .inl (E.2 0, 1160, .inl sv))]]) (W1 := [[(h0, .inr (9, [.int 0, .ref k1, .int sd, .ref k2, .ref k3, .int ln, .int at0, .int pt, .int mi, .int nu, .long (31 * y + (((m_dnM 1000 (m_std (sv 1)) 6001)).toInt64))]))]]) (va_runV (As := [.long ((m_dnM 1000 (m_std (sv 1)) 6001)).toInt64]) (rest := []) ⟨hx, hb, hml, hown, hts⟩ (c_X10_mix l E h0 k1 k2 k3 0 sd ln at0 pt mi nu y (((m_dnM 1000 (m_std (sv 1)) 6001)).toInt64) H.size) (cwV 1 hts gX10_digest_X10_mix rfl rfl rfl (by decide +kernel) ⟨Nat.le_of_ble_eq_true rfl, Nat.le_of_ble_eq_true rfl⟩) ⟨zP.blind, va_recv hK.1 hPc (ci := 9) (q0 := 0) rfl rfl, z_pre hK hPc hDc⟩ rfl rfl hl.1 rfl (lv_room (Nat.le_of_ble_eq_true rfl)) dX10_digest_276 ⟨Nat.le_of_ble_eq_true rfl, Nat.le_of_ble_eq_true rfl⟩) hP hD hS hA [0] [1] rfl rfl (by decide) (by decide) (fun H locs hP hD hS => ?_)
        have hP : va_P E.1 vwCl ([[(k1, .inl (E.2 0, 1160, .inl sv))], [(h0, .inr (9, [.int 0, .ref k1, .int sd, .ref k2, .ref k3, .int ln, .int at0, .int pt, .int mi, .int nu, .long (31 * y + (((m_dnM 1000 (m_std (sv 1)) 6001)).toInt64))]))]] : List va_W).flatten H := hP
        have hD : va_D A ([[(k1, .inl (E.2 0, 1160, .inl sv))], [(h0, .inr (9, [.int 0, .ref k1, .int sd, .ref k2, .ref k3, .int ln, .int at0, .int pt, .int mi, .int nu, .long (31 * y + (((m_dnM 1000 (m_std (sv 1)) 6001)).toInt64))]))]] : List va_W).flatten := hD
        obtain ⟨h_276, eh_276⟩ : ∃ h9 : Int64, h9 = m_mix y (m_dnM 1000 (m_std (sv 1)) 6001) := ⟨_, rfl⟩
        have hP : va_P E.1 vwCl ([[(k1, .inl (E.2 0, 1160, .inl sv))], [(h0, .inr (9, [.int 0, .ref k1, .int sd, .ref k2, .ref k3, .int ln, .int at0, .int pt, .int mi, .int nu, .long h_276]))]] : List va_W).flatten H := by rw [eh_276]; exact hP
        have hD : va_D A ([[(k1, .inl (E.2 0, 1160, .inl sv))], [(h0, .inr (9, [.int 0, .ref k1, .int sd, .ref k2, .ref k3, .int ln, .int at0, .int pt, .int mi, .int nu, .long h_276]))]] : List va_W).flatten := by rw [eh_276]; exact hD
        refine W.eq (g2 := F0 Mi 279 ls []) rfl ?_
        refine lv_aload_n hx hb dX10_digest_279 rfl (lv_at hl 0 rfl) ?_
        refine lv_aload_n hx hb dX10_digest_280 rfl (lv_at hl 0 rfl) ?_
        refine lv_iconst (v := 5) hx hb dX10_digest_281 (by decide) ?_
        have hPc : va_P E.1 vwCl ([[(h0, .inr (9, [.int 0, .ref k1, .int sd, .ref k2, .ref k3, .int ln, .int at0, .int pt, .int mi, .int nu, .long h_276]))], [(k1, .inl (E.2 0, 1160, .inl sv))]] : List va_W).flatten H := zf_sub hP [1, 0] rfl
        have hDc : va_D A ([[(h0, .inr (9, [.int 0, .ref k1, .int sd, .ref k2, .ref k3, .int ln, .int at0, .int pt, .int mi, .int nu, .long h_276]))], [(k1, .inl (E.2 0, 1160, .inl sv))]] : List va_W).flatten := zf_subD hD [1, 0] (by decide) rfl
        refine z_mut (Sc := [[(h0, .inr (9, [.int 0, .ref k1, .int sd, .ref k2, .ref k3, .int ln, .int at0, .int pt, .int mi, .int nu, .long h_276]))], [(k1, .inl (E.2 0, 1160, .inl sv))]]) (Sr := []) (W1 := [[(h0, .inr (9, [.int 0, .ref k1, .int sd, .ref k2, .ref k3, .int ln, .int at0, .int pt, .int mi, .int nu, .long h_276]))], [(k1, .inl (E.2 0, 1160, .inl (m_uaW sv m 5)))]]) (va_runV (As := [.int 5]) (rest := [.ref h0]) ⟨hx, hb, hml, hown, hts⟩ (c_X10_untilAlarm l E h0 k1 k2 k3 0 sd ln at0 pt mi nu h_276 sv m hm hm6 5 5 pq rfl (by decide) (by decide) hp0 hp1 hp2 H.size) (cwV 1 hts gX10_digest_X10_untilAlarm rfl rfl rfl (by decide +kernel) ⟨Nat.le_of_ble_eq_true rfl, Nat.le_of_ble_eq_true rfl⟩) ⟨zP.blind, va_recv hK.1 hPc (ci := 9) (q0 := 0) rfl rfl, z_pre hK hPc hDc⟩ rfl rfl hl.1 rfl (lv_room (Nat.le_of_ble_eq_true rfl)) dX10_digest_282 ⟨Nat.le_of_ble_eq_true rfl, Nat.le_of_ble_eq_true rfl⟩) hP hD hS hA [1, 0] [] rfl rfl (by decide) (by decide) (fun H locs hP hD hS => ?_)
        have hP : va_P E.1 vwCl ([[(h0, .inr (9, [.int 0, .ref k1, .int sd, .ref k2, .ref k3, .int ln, .int at0, .int pt, .int mi, .int nu, .long h_276]))], [(k1, .inl (E.2 0, 1160, .inl (m_uaW sv m 5)))]] : List va_W).flatten H := hP
        have hD : va_D A ([[(h0, .inr (9, [.int 0, .ref k1, .int sd, .ref k2, .ref k3, .int ln, .int at0, .int pt, .int mi, .int nu, .long h_276]))], [(k1, .inl (E.2 0, 1160, .inl (m_uaW sv m 5)))]] : List va_W).flatten := hD
        refine W.eq (g2 := F0 Mi 285 ls [.int (m_uaV sv m 5), .ref h0]) rfl ?_
        refine lv_i2l hx hb dX10_digest_285 rfl ?_
        have hPc : va_P E.1 vwCl ([[(h0, .inr (9, [.int 0, .ref k1, .int sd, .ref k2, .ref k3, .int ln, .int at0, .int pt, .int mi, .int nu, .long h_276]))]] : List va_W).flatten H := zf_sub hP [0] rfl
        have hDc : va_D A ([[(h0, .inr (9, [.int 0, .ref k1, .int sd, .ref k2, .ref k3, .int ln, .int at0, .int pt, .int mi, .int nu, .long h_276]))]] : List va_W).flatten := zf_subD hD [0] (by decide) rfl
        refine z_mut (Sc := [[(h0, .inr (9, [.int 0, .ref k1, .int sd, .ref k2, .ref k3, .int ln, .int at0, .int pt, .int mi, .int nu, .long h_276]))]]) (Sr := [[(k1, .inl (E.2 0, 1160, .inl (m_uaW sv m 5)))]]) (W1 := [[(h0, .inr (9, [.int 0, .ref k1, .int sd, .ref k2, .ref k3, .int ln, .int at0, .int pt, .int mi, .int nu, .long (31 * h_276 + (((m_uaV sv m 5)).toInt64))]))]]) (va_runV (As := [.long ((m_uaV sv m 5)).toInt64]) (rest := []) ⟨hx, hb, hml, hown, hts⟩ (c_X10_mix l E h0 k1 k2 k3 0 sd ln at0 pt mi nu h_276 (((m_uaV sv m 5)).toInt64) H.size) (cwV 1 hts gX10_digest_X10_mix rfl rfl rfl (by decide +kernel) ⟨Nat.le_of_ble_eq_true rfl, Nat.le_of_ble_eq_true rfl⟩) ⟨zP.blind, va_recv hK.1 hPc (ci := 9) (q0 := 0) rfl rfl, z_pre hK hPc hDc⟩ rfl rfl hl.1 rfl (lv_room (Nat.le_of_ble_eq_true rfl)) dX10_digest_286 ⟨Nat.le_of_ble_eq_true rfl, Nat.le_of_ble_eq_true rfl⟩) hP hD hS hA [0] [1] rfl rfl (by decide) (by decide) (fun H locs hP hD hS => ?_)
        have hP : va_P E.1 vwCl ([[(k1, .inl (E.2 0, 1160, .inl (m_uaW sv m 5)))], [(h0, .inr (9, [.int 0, .ref k1, .int sd, .ref k2, .ref k3, .int ln, .int at0, .int pt, .int mi, .int nu, .long (31 * h_276 + (((m_uaV sv m 5)).toInt64))]))]] : List va_W).flatten H := hP
        have hD : va_D A ([[(k1, .inl (E.2 0, 1160, .inl (m_uaW sv m 5)))], [(h0, .inr (9, [.int 0, .ref k1, .int sd, .ref k2, .ref k3, .int ln, .int at0, .int pt, .int mi, .int nu, .long (31 * h_276 + (((m_uaV sv m 5)).toInt64))]))]] : List va_W).flatten := hD
        obtain ⟨h_286, eh_286⟩ : ∃ h9 : Int64, h9 = m_mix h_276 (m_uaV sv m 5) := ⟨_, rfl⟩
        have hP : va_P E.1 vwCl ([[(k1, .inl (E.2 0, 1160, .inl (m_uaW sv m 5)))], [(h0, .inr (9, [.int 0, .ref k1, .int sd, .ref k2, .ref k3, .int ln, .int at0, .int pt, .int mi, .int nu, .long h_286]))]] : List va_W).flatten H := by rw [eh_286]; exact hP
        have hD : va_D A ([[(k1, .inl (E.2 0, 1160, .inl (m_uaW sv m 5)))], [(h0, .inr (9, [.int 0, .ref k1, .int sd, .ref k2, .ref k3, .int ln, .int at0, .int pt, .int mi, .int nu, .long h_286]))]] : List va_W).flatten := by rw [eh_286]; exact hD
        refine W.eq (g2 := F0 Mi 289 ls []) rfl ?_
        refine lv_aload_n hx hb dX10_digest_289 rfl (lv_at hl 0 rfl) ?_
        refine va_get (D := E.1) (ci := 9) (v := .long h_286) (C := RX10) (T := TX10) (N := 11) hx hb hts hi_X10 hown hK.1 hP 1 rfl rfl 10 (by decide) (hts (.fieldLink RX10 151 "AltimeterWatchModel" "hash" "J") (by decide +kernel)) (fun _ h9 => h9) rfl dX10_digest_290 ?_
        refine z_topl (y := m_dgM sv m c0) (by rw [eh_286, eh_276, h5, show i = c0 from (by have := nI_len (a := c0) (b := i) (by omega) (by omega) (by rw [← h3, ← hc]; exact c_198); omega)]; rfl) ?_
        have hP : va_P E.1 vwCl ([[(h0, .inr (9, [.int 0, .ref k1, .int sd, .ref k2, .ref k3, .int ln, .int at0, .int pt, .int mi, .int nu, .long h_286]))], [(k1, .inl (E.2 0, 1160, .inl (m_uaW sv m 5)))]] : List va_W).flatten H := zf_sub hP [1, 0] rfl
        have hD : va_D A ([[(h0, .inr (9, [.int 0, .ref k1, .int sd, .ref k2, .ref k3, .int ln, .int at0, .int pt, .int mi, .int nu, .long h_286]))], [(k1, .inl (E.2 0, 1160, .inl (m_uaW sv m 5)))]] : List va_W).flatten := zf_subD hD [1, 0] (by decide) rfl
        exact W.lret (v := m_dgM sv m c0) hx hb hr (z_end hP hD hS (by rw [eh_286, eh_276, h5, show i = c0 from (by have := nI_len (a := c0) (b := i) (by omega) (by omega) (by rw [← h3, ← hc]; exact c_198); omega)]; rfl)) hS.2.2 dX10_digest_293 hlocks
      · have hlt : i < c0 := nI_nlen (by omega) (by omega) (by rw [← h3, ← hc]; exact c_198)
        refine lv_aload_n hx hb dX10_digest_201 rfl (lv_at hl 0 rfl) ?_
        refine lv_aload_n hx hb dX10_digest_202 rfl (lv_at hl 0 rfl) ?_
        refine va_get (D := E.1) (ci := 9) (v := .ref k1) (C := RX10) (T := TX10) (N := 11) hx hb hts hi_X10 hown hK.1 hP 0 rfl rfl 1 (by decide) (hts (.fieldLink RX10 7 "AltimeterWatchModel" "s" "[I") (by decide +kernel)) (fun _ h9 => h9) rfl dX10_digest_203 ?_
        refine lv_bipush (v := 76) hx hb dX10_digest_206 (by decide) ?_
        refine lv_iconst (v := 4) hx hb dX10_digest_208 (by decide) ?_
        refine lv_iload_n hx hb dX10_digest_209 rfl (lv_at hl 1 rfl) ?_
        refine lv_imul hx hb dX10_digest_210 ?_
        refine lv_iadd hx hb dX10_digest_211 ?_
        refine z_iald (k := (76 + (4 * i))) hx hb hK.1 hP 1 rfl (z_addI rfl (z_mulI rfl h3)) (by omega) (by decide) dX10_digest_212 ?_
        refine lv_i2l hx hb dX10_digest_213 rfl ?_
        have hPc : va_P E.1 vwCl ([[(h0, .inr (9, [.int 0, .ref k1, .int sd, .ref k2, .ref k3, .int ln, .int at0, .int pt, .int mi, .int nu, .long y]))]] : List va_W).flatten H := zf_sub hP [0] rfl
        have hDc : va_D A ([[(h0, .inr (9, [.int 0, .ref k1, .int sd, .ref k2, .ref k3, .int ln, .int at0, .int pt, .int mi, .int nu, .long y]))]] : List va_W).flatten := zf_subD hD [0] (by decide) rfl
        refine z_mut (Sc := [[(h0, .inr (9, [.int 0, .ref k1, .int sd, .ref k2, .ref k3, .int ln, .int at0, .int pt, .int mi, .int nu, .long y]))]]) (Sr := [[(k1, .inl (E.2 0, 1160, .inl sv))]]) (W1 := [[(h0, .inr (9, [.int 0, .ref k1, .int sd, .ref k2, .ref k3, .int ln, .int at0, .int pt, .int mi, .int nu, .long (31 * y + (((sv (76 + (4 * i)))).toInt64))]))]]) (va_runV (As := [.long ((sv (76 + (4 * i)))).toInt64]) (rest := []) ⟨hx, hb, hml, hown, hts⟩ (c_X10_mix l E h0 k1 k2 k3 0 sd ln at0 pt mi nu y (((sv (76 + (4 * i)))).toInt64) H.size) (cwV 1 hts gX10_digest_X10_mix rfl rfl rfl (by decide +kernel) ⟨Nat.le_of_ble_eq_true rfl, Nat.le_of_ble_eq_true rfl⟩) ⟨zP.blind, va_recv hK.1 hPc (ci := 9) (q0 := 0) rfl rfl, z_pre hK hPc hDc⟩ rfl rfl hl.1 rfl (lv_room (Nat.le_of_ble_eq_true rfl)) dX10_digest_214 ⟨Nat.le_of_ble_eq_true rfl, Nat.le_of_ble_eq_true rfl⟩) hP hD hS hA [0] [1] rfl rfl (by decide) (by decide) (fun H locs hP hD hS => ?_)
        have hP : va_P E.1 vwCl ([[(k1, .inl (E.2 0, 1160, .inl sv))], [(h0, .inr (9, [.int 0, .ref k1, .int sd, .ref k2, .ref k3, .int ln, .int at0, .int pt, .int mi, .int nu, .long (31 * y + (((sv (76 + (4 * i)))).toInt64))]))]] : List va_W).flatten H := hP
        have hD : va_D A ([[(k1, .inl (E.2 0, 1160, .inl sv))], [(h0, .inr (9, [.int 0, .ref k1, .int sd, .ref k2, .ref k3, .int ln, .int at0, .int pt, .int mi, .int nu, .long (31 * y + (((sv (76 + (4 * i)))).toInt64))]))]] : List va_W).flatten := hD
        obtain ⟨h_214, eh_214⟩ : ∃ h9 : Int64, h9 = m_mix y (sv (76 + (4 * i))) := ⟨_, rfl⟩
        have hP : va_P E.1 vwCl ([[(k1, .inl (E.2 0, 1160, .inl sv))], [(h0, .inr (9, [.int 0, .ref k1, .int sd, .ref k2, .ref k3, .int ln, .int at0, .int pt, .int mi, .int nu, .long h_214]))]] : List va_W).flatten H := by rw [eh_214]; exact hP
        have hD : va_D A ([[(k1, .inl (E.2 0, 1160, .inl sv))], [(h0, .inr (9, [.int 0, .ref k1, .int sd, .ref k2, .ref k3, .int ln, .int at0, .int pt, .int mi, .int nu, .long h_214]))]] : List va_W).flatten := by rw [eh_214]; exact hD
        refine W.eq (g2 := F0 Mi 217 ls []) rfl ?_
        refine lv_aload_n hx hb dX10_digest_217 rfl (lv_at hl 0 rfl) ?_
        refine lv_aload_n hx hb dX10_digest_218 rfl (lv_at hl 0 rfl) ?_
        refine va_get (D := E.1) (ci := 9) (v := .ref k1) (C := RX10) (T := TX10) (N := 11) hx hb hts hi_X10 hown hK.1 hP 1 rfl rfl 1 (by decide) (hts (.fieldLink RX10 7 "AltimeterWatchModel" "s" "[I") (by decide +kernel)) (fun _ h9 => h9) rfl dX10_digest_219 ?_
        refine lv_bipush (v := 76) hx hb dX10_digest_222 (by decide) ?_
        refine lv_iconst (v := 4) hx hb dX10_digest_224 (by decide) ?_
        refine lv_iload_n hx hb dX10_digest_225 rfl (lv_at hl 1 rfl) ?_
        refine lv_imul hx hb dX10_digest_226 ?_
        refine lv_iadd hx hb dX10_digest_227 ?_
        refine lv_iconst (v := 1) hx hb dX10_digest_228 (by decide) ?_
        refine lv_iadd hx hb dX10_digest_229 ?_
        refine z_iald (k := ((76 + (4 * i)) + 1)) hx hb hK.1 hP 0 rfl (z_addI (z_addI rfl (z_mulI rfl h3)) rfl) (by omega) (by decide) dX10_digest_230 ?_
        refine lv_i2l hx hb dX10_digest_231 rfl ?_
        have hPc : va_P E.1 vwCl ([[(h0, .inr (9, [.int 0, .ref k1, .int sd, .ref k2, .ref k3, .int ln, .int at0, .int pt, .int mi, .int nu, .long h_214]))]] : List va_W).flatten H := zf_sub hP [1] rfl
        have hDc : va_D A ([[(h0, .inr (9, [.int 0, .ref k1, .int sd, .ref k2, .ref k3, .int ln, .int at0, .int pt, .int mi, .int nu, .long h_214]))]] : List va_W).flatten := zf_subD hD [1] (by decide) rfl
        refine z_mut (Sc := [[(h0, .inr (9, [.int 0, .ref k1, .int sd, .ref k2, .ref k3, .int ln, .int at0, .int pt, .int mi, .int nu, .long h_214]))]]) (Sr := [[(k1, .inl (E.2 0, 1160, .inl sv))]]) (W1 := [[(h0, .inr (9, [.int 0, .ref k1, .int sd, .ref k2, .ref k3, .int ln, .int at0, .int pt, .int mi, .int nu, .long (31 * h_214 + (((sv ((76 + (4 * i)) + 1))).toInt64))]))]]) (va_runV (As := [.long ((sv ((76 + (4 * i)) + 1))).toInt64]) (rest := []) ⟨hx, hb, hml, hown, hts⟩ (c_X10_mix l E h0 k1 k2 k3 0 sd ln at0 pt mi nu h_214 (((sv ((76 + (4 * i)) + 1))).toInt64) H.size) (cwV 1 hts gX10_digest_X10_mix rfl rfl rfl (by decide +kernel) ⟨Nat.le_of_ble_eq_true rfl, Nat.le_of_ble_eq_true rfl⟩) ⟨zP.blind, va_recv hK.1 hPc (ci := 9) (q0 := 0) rfl rfl, z_pre hK hPc hDc⟩ rfl rfl hl.1 rfl (lv_room (Nat.le_of_ble_eq_true rfl)) dX10_digest_232 ⟨Nat.le_of_ble_eq_true rfl, Nat.le_of_ble_eq_true rfl⟩) hP hD hS hA [1] [0] rfl rfl (by decide) (by decide) (fun H locs hP hD hS => ?_)
        have hP : va_P E.1 vwCl ([[(k1, .inl (E.2 0, 1160, .inl sv))], [(h0, .inr (9, [.int 0, .ref k1, .int sd, .ref k2, .ref k3, .int ln, .int at0, .int pt, .int mi, .int nu, .long (31 * h_214 + (((sv ((76 + (4 * i)) + 1))).toInt64))]))]] : List va_W).flatten H := hP
        have hD : va_D A ([[(k1, .inl (E.2 0, 1160, .inl sv))], [(h0, .inr (9, [.int 0, .ref k1, .int sd, .ref k2, .ref k3, .int ln, .int at0, .int pt, .int mi, .int nu, .long (31 * h_214 + (((sv ((76 + (4 * i)) + 1))).toInt64))]))]] : List va_W).flatten := hD
        obtain ⟨h_232, eh_232⟩ : ∃ h9 : Int64, h9 = m_mix h_214 (sv ((76 + (4 * i)) + 1)) := ⟨_, rfl⟩
        have hP : va_P E.1 vwCl ([[(k1, .inl (E.2 0, 1160, .inl sv))], [(h0, .inr (9, [.int 0, .ref k1, .int sd, .ref k2, .ref k3, .int ln, .int at0, .int pt, .int mi, .int nu, .long h_232]))]] : List va_W).flatten H := by rw [eh_232]; exact hP
        have hD : va_D A ([[(k1, .inl (E.2 0, 1160, .inl sv))], [(h0, .inr (9, [.int 0, .ref k1, .int sd, .ref k2, .ref k3, .int ln, .int at0, .int pt, .int mi, .int nu, .long h_232]))]] : List va_W).flatten := by rw [eh_232]; exact hD
        refine W.eq (g2 := F0 Mi 235 ls []) rfl ?_
        refine lv_aload_n hx hb dX10_digest_235 rfl (lv_at hl 0 rfl) ?_
        refine lv_aload_n hx hb dX10_digest_236 rfl (lv_at hl 0 rfl) ?_
        refine va_get (D := E.1) (ci := 9) (v := .ref k1) (C := RX10) (T := TX10) (N := 11) hx hb hts hi_X10 hown hK.1 hP 1 rfl rfl 1 (by decide) (hts (.fieldLink RX10 7 "AltimeterWatchModel" "s" "[I") (by decide +kernel)) (fun _ h9 => h9) rfl dX10_digest_237 ?_
        refine lv_bipush (v := 76) hx hb dX10_digest_240 (by decide) ?_
        refine lv_iconst (v := 4) hx hb dX10_digest_242 (by decide) ?_
        refine lv_iload_n hx hb dX10_digest_243 rfl (lv_at hl 1 rfl) ?_
        refine lv_imul hx hb dX10_digest_244 ?_
        refine lv_iadd hx hb dX10_digest_245 ?_
        refine lv_iconst (v := 2) hx hb dX10_digest_246 (by decide) ?_
        refine lv_iadd hx hb dX10_digest_247 ?_
        refine z_iald (k := ((76 + (4 * i)) + 2)) hx hb hK.1 hP 0 rfl (z_addI (z_addI rfl (z_mulI rfl h3)) rfl) (by omega) (by decide) dX10_digest_248 ?_
        refine lv_aload_n hx hb dX10_digest_249 rfl (lv_at hl 0 rfl) ?_
        refine va_get (D := E.1) (ci := 9) (v := .ref k1) (C := RX10) (T := TX10) (N := 11) hx hb hts hi_X10 hown hK.1 hP 1 rfl rfl 1 (by decide) (hts (.fieldLink RX10 7 "AltimeterWatchModel" "s" "[I") (by decide +kernel)) (fun _ h9 => h9) rfl dX10_digest_250 ?_
        refine lv_bipush (v := 78) hx hb dX10_digest_253 (by decide) ?_
        refine z_iald (k := 78) hx hb hK.1 hP 0 rfl rfl (by decide) (by decide) dX10_digest_255 ?_
        refine lv_isub hx hb dX10_digest_256 ?_
        refine lv_i2l hx hb dX10_digest_257 rfl ?_
        have hPc : va_P E.1 vwCl ([[(h0, .inr (9, [.int 0, .ref k1, .int sd, .ref k2, .ref k3, .int ln, .int at0, .int pt, .int mi, .int nu, .long h_232]))]] : List va_W).flatten H := zf_sub hP [1] rfl
        have hDc : va_D A ([[(h0, .inr (9, [.int 0, .ref k1, .int sd, .ref k2, .ref k3, .int ln, .int at0, .int pt, .int mi, .int nu, .long h_232]))]] : List va_W).flatten := zf_subD hD [1] (by decide) rfl
        refine z_mut (Sc := [[(h0, .inr (9, [.int 0, .ref k1, .int sd, .ref k2, .ref k3, .int ln, .int at0, .int pt, .int mi, .int nu, .long h_232]))]]) (Sr := [[(k1, .inl (E.2 0, 1160, .inl sv))]]) (W1 := [[(h0, .inr (9, [.int 0, .ref k1, .int sd, .ref k2, .ref k3, .int ln, .int at0, .int pt, .int mi, .int nu, .long (31 * h_232 + ((((sv ((76 + (4 * i)) + 2)) - (sv 78))).toInt64))]))]]) (va_runV (As := [.long (((sv ((76 + (4 * i)) + 2)) - (sv 78))).toInt64]) (rest := []) ⟨hx, hb, hml, hown, hts⟩ (c_X10_mix l E h0 k1 k2 k3 0 sd ln at0 pt mi nu h_232 ((((sv ((76 + (4 * i)) + 2)) - (sv 78))).toInt64) H.size) (cwV 1 hts gX10_digest_X10_mix rfl rfl rfl (by decide +kernel) ⟨Nat.le_of_ble_eq_true rfl, Nat.le_of_ble_eq_true rfl⟩) ⟨zP.blind, va_recv hK.1 hPc (ci := 9) (q0 := 0) rfl rfl, z_pre hK hPc hDc⟩ rfl rfl hl.1 rfl (lv_room (Nat.le_of_ble_eq_true rfl)) dX10_digest_258 ⟨Nat.le_of_ble_eq_true rfl, Nat.le_of_ble_eq_true rfl⟩) hP hD hS hA [1] [0] rfl rfl (by decide) (by decide) (fun H locs hP hD hS => ?_)
        have hP : va_P E.1 vwCl ([[(k1, .inl (E.2 0, 1160, .inl sv))], [(h0, .inr (9, [.int 0, .ref k1, .int sd, .ref k2, .ref k3, .int ln, .int at0, .int pt, .int mi, .int nu, .long (31 * h_232 + ((((sv ((76 + (4 * i)) + 2)) - (sv 78))).toInt64))]))]] : List va_W).flatten H := hP
        have hD : va_D A ([[(k1, .inl (E.2 0, 1160, .inl sv))], [(h0, .inr (9, [.int 0, .ref k1, .int sd, .ref k2, .ref k3, .int ln, .int at0, .int pt, .int mi, .int nu, .long (31 * h_232 + ((((sv ((76 + (4 * i)) + 2)) - (sv 78))).toInt64))]))]] : List va_W).flatten := hD
        obtain ⟨h_258, eh_258⟩ : ∃ h9 : Int64, h9 = m_mix h_232 ((sv ((76 + (4 * i)) + 2)) - (sv 78)) := ⟨_, rfl⟩
        have hP : va_P E.1 vwCl ([[(k1, .inl (E.2 0, 1160, .inl sv))], [(h0, .inr (9, [.int 0, .ref k1, .int sd, .ref k2, .ref k3, .int ln, .int at0, .int pt, .int mi, .int nu, .long h_258]))]] : List va_W).flatten H := by rw [eh_258]; exact hP
        have hD : va_D A ([[(k1, .inl (E.2 0, 1160, .inl sv))], [(h0, .inr (9, [.int 0, .ref k1, .int sd, .ref k2, .ref k3, .int ln, .int at0, .int pt, .int mi, .int nu, .long h_258]))]] : List va_W).flatten := by rw [eh_258]; exact hD
        refine W.eq (g2 := F0 Mi 261 ls []) rfl ?_
        obtain ⟨x_1, ex_1⟩ : ∃ y : Int32, y = x + 1 := ⟨_, rfl⟩
        refine lv_iinc (v := x_1) (lv' := [(1, .int x_1), (0, .ref h0)]) hx hb dX10_digest_261 hl (k := 1) rfl (by rw [ex_1]; rfl) (by decide) rfl (fun ls hl => ?_)
        refine lv_goto (tgt := 190) hx hb dX10_digest_264 (by decide) ?_
        exact ih (i + 1) x_1 _ (by omega) (by omega) (by rw [ex_1, h3]; exact nI_1 i) (by rw [eh_258, eh_232, eh_214, h5]; rfl) _ _ (zf_sub hP [1, 0] rfl) (zf_subD hD [1, 0] (by decide) rfl) hS ls (lv_sub hl [1, 0] rfl)
  refine lv_aload_n hx hb dX10_digest_0 rfl (lv_at hl 0 rfl) ?_
  refine lv_iconst (v := 0) hx hb dX10_digest_1 (by decide) ?_
  refine va_put (D := E.1) (ci := 9) (v := .int 0) (ty := .int) (C := RX10) (T := TX10) (N := 11) hx hb hts hi_X10 tyX10 tyX10_ok nmX10 hown hK.1 hP hD hS 0 rfl rfl 0 (by decide) (hts (.fieldLink RX10 20 "AltimeterWatchModel" "thrown" "I") (by decide +kernel)) (fun _ h9 => h9) rfl (by decide +kernel) rfl rfl (Nat.le_of_ble_eq_true rfl) dX10_digest_2 (fun H locs hP hD hS => ?_)
  have hP : va_P E.1 vwCl ([[(h0, .inr (9, [.int 0, .ref k1, .int sd, .ref k2, .ref k3, .int ln, .int at0, .int pt, .int mi, .int nu, .long ha]))], [(k1, .inl (E.2 0, 1160, .inl sv))]] : List va_W).flatten H := hP
  have hD : va_D A ([[(h0, .inr (9, [.int 0, .ref k1, .int sd, .ref k2, .ref k3, .int ln, .int at0, .int pt, .int mi, .int nu, .long ha]))], [(k1, .inl (E.2 0, 1160, .inl sv))]] : List va_W).flatten := hD
  refine lv_aload_n hx hb dX10_digest_5 rfl (lv_at hl 0 rfl) ?_
  refine lv_ldc2 hx hb hown (hts (.constantLong RX10 155 (4369)) (by decide +kernel)) dX10_digest_6 ?_
  refine va_put (D := E.1) (ci := 9) (v := .long 4369) (ty := .long) (C := RX10) (T := TX10) (N := 11) hx hb hts hi_X10 tyX10 tyX10_ok nmX10 hown hK.1 hP hD hS 0 rfl rfl 10 (by decide) (hts (.fieldLink RX10 151 "AltimeterWatchModel" "hash" "J") (by decide +kernel)) (fun _ h9 => h9) rfl (by decide +kernel) rfl rfl (Nat.le_of_ble_eq_true rfl) dX10_digest_9 (fun H locs hP hD hS => ?_)
  have hP : va_P E.1 vwCl ([[(h0, .inr (9, [.int 0, .ref k1, .int sd, .ref k2, .ref k3, .int ln, .int at0, .int pt, .int mi, .int nu, .long 4369]))], [(k1, .inl (E.2 0, 1160, .inl sv))]] : List va_W).flatten H := hP
  have hD : va_D A ([[(h0, .inr (9, [.int 0, .ref k1, .int sd, .ref k2, .ref k3, .int ln, .int at0, .int pt, .int mi, .int nu, .long 4369]))], [(k1, .inl (E.2 0, 1160, .inl sv))]] : List va_W).flatten := hD
  refine lv_aload_n hx hb dX10_digest_12 rfl (lv_at hl 0 rfl) ?_
  refine lv_aload_n hx hb dX10_digest_13 rfl (lv_at hl 0 rfl) ?_
  refine va_get (D := E.1) (ci := 9) (v := .ref k1) (C := RX10) (T := TX10) (N := 11) hx hb hts hi_X10 hown hK.1 hP 0 rfl rfl 1 (by decide) (hts (.fieldLink RX10 7 "AltimeterWatchModel" "s" "[I") (by decide +kernel)) (fun _ h9 => h9) rfl dX10_digest_14 ?_
  refine lv_iconst (v := 2) hx hb dX10_digest_17 (by decide) ?_
  refine z_iald (k := 2) hx hb hK.1 hP 1 rfl rfl (by decide) (by decide) dX10_digest_18 ?_
  refine lv_i2l hx hb dX10_digest_19 rfl ?_
  have hPc : va_P E.1 vwCl ([[(h0, .inr (9, [.int 0, .ref k1, .int sd, .ref k2, .ref k3, .int ln, .int at0, .int pt, .int mi, .int nu, .long 4369]))]] : List va_W).flatten H := zf_sub hP [0] rfl
  have hDc : va_D A ([[(h0, .inr (9, [.int 0, .ref k1, .int sd, .ref k2, .ref k3, .int ln, .int at0, .int pt, .int mi, .int nu, .long 4369]))]] : List va_W).flatten := zf_subD hD [0] (by decide) rfl
  refine z_mut (Sc := [[(h0, .inr (9, [.int 0, .ref k1, .int sd, .ref k2, .ref k3, .int ln, .int at0, .int pt, .int mi, .int nu, .long 4369]))]]) (Sr := [[(k1, .inl (E.2 0, 1160, .inl sv))]]) (W1 := [[(h0, .inr (9, [.int 0, .ref k1, .int sd, .ref k2, .ref k3, .int ln, .int at0, .int pt, .int mi, .int nu, .long (31 * 4369 + (((sv 2)).toInt64))]))]]) (va_runV (As := [.long ((sv 2)).toInt64]) (rest := []) ⟨hx, hb, hml, hown, hts⟩ (c_X10_mix l E h0 k1 k2 k3 0 sd ln at0 pt mi nu 4369 (((sv 2)).toInt64) H.size) (cwV 1 hts gX10_digest_X10_mix rfl rfl rfl (by decide +kernel) ⟨Nat.le_of_ble_eq_true rfl, Nat.le_of_ble_eq_true rfl⟩) ⟨zP.blind, va_recv hK.1 hPc (ci := 9) (q0 := 0) rfl rfl, z_pre hK hPc hDc⟩ rfl rfl hl.1 rfl (lv_room (Nat.le_of_ble_eq_true rfl)) dX10_digest_20 ⟨Nat.le_of_ble_eq_true rfl, Nat.le_of_ble_eq_true rfl⟩) hP hD hS hA [0] [1] rfl rfl (by decide) (by decide) (fun H locs hP hD hS => ?_)
  have hP : va_P E.1 vwCl ([[(k1, .inl (E.2 0, 1160, .inl sv))], [(h0, .inr (9, [.int 0, .ref k1, .int sd, .ref k2, .ref k3, .int ln, .int at0, .int pt, .int mi, .int nu, .long (31 * 4369 + (((sv 2)).toInt64))]))]] : List va_W).flatten H := hP
  have hD : va_D A ([[(k1, .inl (E.2 0, 1160, .inl sv))], [(h0, .inr (9, [.int 0, .ref k1, .int sd, .ref k2, .ref k3, .int ln, .int at0, .int pt, .int mi, .int nu, .long (31 * 4369 + (((sv 2)).toInt64))]))]] : List va_W).flatten := hD
  obtain ⟨h_20, eh_20⟩ : ∃ h9 : Int64, h9 = m_mix 4369 (sv 2) := ⟨_, rfl⟩
  have hP : va_P E.1 vwCl ([[(k1, .inl (E.2 0, 1160, .inl sv))], [(h0, .inr (9, [.int 0, .ref k1, .int sd, .ref k2, .ref k3, .int ln, .int at0, .int pt, .int mi, .int nu, .long h_20]))]] : List va_W).flatten H := by rw [eh_20]; exact hP
  have hD : va_D A ([[(k1, .inl (E.2 0, 1160, .inl sv))], [(h0, .inr (9, [.int 0, .ref k1, .int sd, .ref k2, .ref k3, .int ln, .int at0, .int pt, .int mi, .int nu, .long h_20]))]] : List va_W).flatten := by rw [eh_20]; exact hD
  refine W.eq (g2 := F0 Mi 23 ls []) rfl ?_
  refine lv_aload_n hx hb dX10_digest_23 rfl (lv_at hl 0 rfl) ?_
  refine lv_aload_n hx hb dX10_digest_24 rfl (lv_at hl 0 rfl) ?_
  refine va_get (D := E.1) (ci := 9) (v := .ref k1) (C := RX10) (T := TX10) (N := 11) hx hb hts hi_X10 hown hK.1 hP 1 rfl rfl 1 (by decide) (hts (.fieldLink RX10 7 "AltimeterWatchModel" "s" "[I") (by decide +kernel)) (fun _ h9 => h9) rfl dX10_digest_25 ?_
  refine lv_iconst (v := 0) hx hb dX10_digest_28 (by decide) ?_
  refine z_iald (k := 0) hx hb hK.1 hP 0 rfl rfl (by decide) (by decide) dX10_digest_29 ?_
  refine lv_i2l hx hb dX10_digest_30 rfl ?_
  have hPc : va_P E.1 vwCl ([[(h0, .inr (9, [.int 0, .ref k1, .int sd, .ref k2, .ref k3, .int ln, .int at0, .int pt, .int mi, .int nu, .long h_20]))]] : List va_W).flatten H := zf_sub hP [1] rfl
  have hDc : va_D A ([[(h0, .inr (9, [.int 0, .ref k1, .int sd, .ref k2, .ref k3, .int ln, .int at0, .int pt, .int mi, .int nu, .long h_20]))]] : List va_W).flatten := zf_subD hD [1] (by decide) rfl
  refine z_mut (Sc := [[(h0, .inr (9, [.int 0, .ref k1, .int sd, .ref k2, .ref k3, .int ln, .int at0, .int pt, .int mi, .int nu, .long h_20]))]]) (Sr := [[(k1, .inl (E.2 0, 1160, .inl sv))]]) (W1 := [[(h0, .inr (9, [.int 0, .ref k1, .int sd, .ref k2, .ref k3, .int ln, .int at0, .int pt, .int mi, .int nu, .long (31 * h_20 + (((sv 0)).toInt64))]))]]) (va_runV (As := [.long ((sv 0)).toInt64]) (rest := []) ⟨hx, hb, hml, hown, hts⟩ (c_X10_mix l E h0 k1 k2 k3 0 sd ln at0 pt mi nu h_20 (((sv 0)).toInt64) H.size) (cwV 1 hts gX10_digest_X10_mix rfl rfl rfl (by decide +kernel) ⟨Nat.le_of_ble_eq_true rfl, Nat.le_of_ble_eq_true rfl⟩) ⟨zP.blind, va_recv hK.1 hPc (ci := 9) (q0 := 0) rfl rfl, z_pre hK hPc hDc⟩ rfl rfl hl.1 rfl (lv_room (Nat.le_of_ble_eq_true rfl)) dX10_digest_31 ⟨Nat.le_of_ble_eq_true rfl, Nat.le_of_ble_eq_true rfl⟩) hP hD hS hA [1] [0] rfl rfl (by decide) (by decide) (fun H locs hP hD hS => ?_)
  have hP : va_P E.1 vwCl ([[(k1, .inl (E.2 0, 1160, .inl sv))], [(h0, .inr (9, [.int 0, .ref k1, .int sd, .ref k2, .ref k3, .int ln, .int at0, .int pt, .int mi, .int nu, .long (31 * h_20 + (((sv 0)).toInt64))]))]] : List va_W).flatten H := hP
  have hD : va_D A ([[(k1, .inl (E.2 0, 1160, .inl sv))], [(h0, .inr (9, [.int 0, .ref k1, .int sd, .ref k2, .ref k3, .int ln, .int at0, .int pt, .int mi, .int nu, .long (31 * h_20 + (((sv 0)).toInt64))]))]] : List va_W).flatten := hD
  obtain ⟨h_31, eh_31⟩ : ∃ h9 : Int64, h9 = m_mix h_20 (sv 0) := ⟨_, rfl⟩
  have hP : va_P E.1 vwCl ([[(k1, .inl (E.2 0, 1160, .inl sv))], [(h0, .inr (9, [.int 0, .ref k1, .int sd, .ref k2, .ref k3, .int ln, .int at0, .int pt, .int mi, .int nu, .long h_31]))]] : List va_W).flatten H := by rw [eh_31]; exact hP
  have hD : va_D A ([[(k1, .inl (E.2 0, 1160, .inl sv))], [(h0, .inr (9, [.int 0, .ref k1, .int sd, .ref k2, .ref k3, .int ln, .int at0, .int pt, .int mi, .int nu, .long h_31]))]] : List va_W).flatten := by rw [eh_31]; exact hD
  refine W.eq (g2 := F0 Mi 34 ls []) rfl ?_
  refine lv_aload_n hx hb dX10_digest_34 rfl (lv_at hl 0 rfl) ?_
  refine lv_aload_n hx hb dX10_digest_35 rfl (lv_at hl 0 rfl) ?_
  refine lv_iconst (v := 0) hx hb dX10_digest_36 (by decide) ?_
  have hPc : va_P E.1 vwCl ([[(h0, .inr (9, [.int 0, .ref k1, .int sd, .ref k2, .ref k3, .int ln, .int at0, .int pt, .int mi, .int nu, .long h_31]))], [(k1, .inl (E.2 0, 1160, .inl sv))]] : List va_W).flatten H := zf_sub hP [1, 0] rfl
  refine z_rdv (va_runV (As := [.int 0]) (rest := [.ref h0]) ⟨hx, hb, hml, hown, hts⟩ (c_X10_altitudeAt l E h0 k1 k2 k3 0 sd ln at0 pt mi nu h_31 0 0 rfl (by omega) sv) (cwV 1 hts gX10_digest_X10_altitudeAt rfl rfl rfl (by decide +kernel) ⟨Nat.le_of_ble_eq_true rfl, Nat.le_of_ble_eq_true rfl⟩) ⟨zPr.blind, va_recv hK.1 hPc (ci := 9) (q0 := 0) rfl rfl, z_prer hK hPc⟩ rfl rfl hl.1 rfl (lv_room (Nat.le_of_ble_eq_true rfl)) dX10_digest_37 ⟨Nat.le_of_ble_eq_true rfl, Nat.le_of_ble_eq_true rfl⟩) ?_
  refine W.eq (g2 := F0 Mi 40 ls [.int (m_std (sv (0 + 0)) - m_std (sv (0 + 1))), .ref h0]) rfl ?_
  refine lv_i2l hx hb dX10_digest_40 rfl ?_
  have hPc : va_P E.1 vwCl ([[(h0, .inr (9, [.int 0, .ref k1, .int sd, .ref k2, .ref k3, .int ln, .int at0, .int pt, .int mi, .int nu, .long h_31]))]] : List va_W).flatten H := zf_sub hP [1] rfl
  have hDc : va_D A ([[(h0, .inr (9, [.int 0, .ref k1, .int sd, .ref k2, .ref k3, .int ln, .int at0, .int pt, .int mi, .int nu, .long h_31]))]] : List va_W).flatten := zf_subD hD [1] (by decide) rfl
  refine z_mut (Sc := [[(h0, .inr (9, [.int 0, .ref k1, .int sd, .ref k2, .ref k3, .int ln, .int at0, .int pt, .int mi, .int nu, .long h_31]))]]) (Sr := [[(k1, .inl (E.2 0, 1160, .inl sv))]]) (W1 := [[(h0, .inr (9, [.int 0, .ref k1, .int sd, .ref k2, .ref k3, .int ln, .int at0, .int pt, .int mi, .int nu, .long (31 * h_31 + (((m_std (sv (0 + 0)) - m_std (sv (0 + 1)))).toInt64))]))]]) (va_runV (As := [.long ((m_std (sv (0 + 0)) - m_std (sv (0 + 1)))).toInt64]) (rest := []) ⟨hx, hb, hml, hown, hts⟩ (c_X10_mix l E h0 k1 k2 k3 0 sd ln at0 pt mi nu h_31 (((m_std (sv (0 + 0)) - m_std (sv (0 + 1)))).toInt64) H.size) (cwV 1 hts gX10_digest_X10_mix rfl rfl rfl (by decide +kernel) ⟨Nat.le_of_ble_eq_true rfl, Nat.le_of_ble_eq_true rfl⟩) ⟨zP.blind, va_recv hK.1 hPc (ci := 9) (q0 := 0) rfl rfl, z_pre hK hPc hDc⟩ rfl rfl hl.1 rfl (lv_room (Nat.le_of_ble_eq_true rfl)) dX10_digest_41 ⟨Nat.le_of_ble_eq_true rfl, Nat.le_of_ble_eq_true rfl⟩) hP hD hS hA [1] [0] rfl rfl (by decide) (by decide) (fun H locs hP hD hS => ?_)
  have hP : va_P E.1 vwCl ([[(k1, .inl (E.2 0, 1160, .inl sv))], [(h0, .inr (9, [.int 0, .ref k1, .int sd, .ref k2, .ref k3, .int ln, .int at0, .int pt, .int mi, .int nu, .long (31 * h_31 + (((m_std (sv (0 + 0)) - m_std (sv (0 + 1)))).toInt64))]))]] : List va_W).flatten H := hP
  have hD : va_D A ([[(k1, .inl (E.2 0, 1160, .inl sv))], [(h0, .inr (9, [.int 0, .ref k1, .int sd, .ref k2, .ref k3, .int ln, .int at0, .int pt, .int mi, .int nu, .long (31 * h_31 + (((m_std (sv (0 + 0)) - m_std (sv (0 + 1)))).toInt64))]))]] : List va_W).flatten := hD
  obtain ⟨h_41, eh_41⟩ : ∃ h9 : Int64, h9 = m_mix h_31 (m_std (sv (0 + 0)) - m_std (sv (0 + 1))) := ⟨_, rfl⟩
  have hP : va_P E.1 vwCl ([[(k1, .inl (E.2 0, 1160, .inl sv))], [(h0, .inr (9, [.int 0, .ref k1, .int sd, .ref k2, .ref k3, .int ln, .int at0, .int pt, .int mi, .int nu, .long h_41]))]] : List va_W).flatten H := by rw [eh_41]; exact hP
  have hD : va_D A ([[(k1, .inl (E.2 0, 1160, .inl sv))], [(h0, .inr (9, [.int 0, .ref k1, .int sd, .ref k2, .ref k3, .int ln, .int at0, .int pt, .int mi, .int nu, .long h_41]))]] : List va_W).flatten := by rw [eh_41]; exact hD
  refine W.eq (g2 := F0 Mi 44 ls []) rfl ?_
  refine lv_aload_n hx hb dX10_digest_44 rfl (lv_at hl 0 rfl) ?_
  refine lv_aload_n hx hb dX10_digest_45 rfl (lv_at hl 0 rfl) ?_
  refine va_get (D := E.1) (ci := 9) (v := .ref k1) (C := RX10) (T := TX10) (N := 11) hx hb hts hi_X10 hown hK.1 hP 1 rfl rfl 1 (by decide) (hts (.fieldLink RX10 7 "AltimeterWatchModel" "s" "[I") (by decide +kernel)) (fun _ h9 => h9) rfl dX10_digest_46 ?_
  refine lv_iconst (v := 4) hx hb dX10_digest_49 (by decide) ?_
  refine z_iald (k := 4) hx hb hK.1 hP 0 rfl rfl (by decide) (by decide) dX10_digest_50 ?_
  refine lv_i2l hx hb dX10_digest_51 rfl ?_
  have hPc : va_P E.1 vwCl ([[(h0, .inr (9, [.int 0, .ref k1, .int sd, .ref k2, .ref k3, .int ln, .int at0, .int pt, .int mi, .int nu, .long h_41]))]] : List va_W).flatten H := zf_sub hP [1] rfl
  have hDc : va_D A ([[(h0, .inr (9, [.int 0, .ref k1, .int sd, .ref k2, .ref k3, .int ln, .int at0, .int pt, .int mi, .int nu, .long h_41]))]] : List va_W).flatten := zf_subD hD [1] (by decide) rfl
  refine z_mut (Sc := [[(h0, .inr (9, [.int 0, .ref k1, .int sd, .ref k2, .ref k3, .int ln, .int at0, .int pt, .int mi, .int nu, .long h_41]))]]) (Sr := [[(k1, .inl (E.2 0, 1160, .inl sv))]]) (W1 := [[(h0, .inr (9, [.int 0, .ref k1, .int sd, .ref k2, .ref k3, .int ln, .int at0, .int pt, .int mi, .int nu, .long (31 * h_41 + (((sv 4)).toInt64))]))]]) (va_runV (As := [.long ((sv 4)).toInt64]) (rest := []) ⟨hx, hb, hml, hown, hts⟩ (c_X10_mix l E h0 k1 k2 k3 0 sd ln at0 pt mi nu h_41 (((sv 4)).toInt64) H.size) (cwV 1 hts gX10_digest_X10_mix rfl rfl rfl (by decide +kernel) ⟨Nat.le_of_ble_eq_true rfl, Nat.le_of_ble_eq_true rfl⟩) ⟨zP.blind, va_recv hK.1 hPc (ci := 9) (q0 := 0) rfl rfl, z_pre hK hPc hDc⟩ rfl rfl hl.1 rfl (lv_room (Nat.le_of_ble_eq_true rfl)) dX10_digest_52 ⟨Nat.le_of_ble_eq_true rfl, Nat.le_of_ble_eq_true rfl⟩) hP hD hS hA [1] [0] rfl rfl (by decide) (by decide) (fun H locs hP hD hS => ?_)
  have hP : va_P E.1 vwCl ([[(k1, .inl (E.2 0, 1160, .inl sv))], [(h0, .inr (9, [.int 0, .ref k1, .int sd, .ref k2, .ref k3, .int ln, .int at0, .int pt, .int mi, .int nu, .long (31 * h_41 + (((sv 4)).toInt64))]))]] : List va_W).flatten H := hP
  have hD : va_D A ([[(k1, .inl (E.2 0, 1160, .inl sv))], [(h0, .inr (9, [.int 0, .ref k1, .int sd, .ref k2, .ref k3, .int ln, .int at0, .int pt, .int mi, .int nu, .long (31 * h_41 + (((sv 4)).toInt64))]))]] : List va_W).flatten := hD
  obtain ⟨h_52, eh_52⟩ : ∃ h9 : Int64, h9 = m_mix h_41 (sv 4) := ⟨_, rfl⟩
  have hP : va_P E.1 vwCl ([[(k1, .inl (E.2 0, 1160, .inl sv))], [(h0, .inr (9, [.int 0, .ref k1, .int sd, .ref k2, .ref k3, .int ln, .int at0, .int pt, .int mi, .int nu, .long h_52]))]] : List va_W).flatten H := by rw [eh_52]; exact hP
  have hD : va_D A ([[(k1, .inl (E.2 0, 1160, .inl sv))], [(h0, .inr (9, [.int 0, .ref k1, .int sd, .ref k2, .ref k3, .int ln, .int at0, .int pt, .int mi, .int nu, .long h_52]))]] : List va_W).flatten := by rw [eh_52]; exact hD
  refine W.eq (g2 := F0 Mi 55 ls []) rfl ?_
  refine lv_aload_n hx hb dX10_digest_55 rfl (lv_at hl 0 rfl) ?_
  refine lv_aload_n hx hb dX10_digest_56 rfl (lv_at hl 0 rfl) ?_
  refine va_get (D := E.1) (ci := 9) (v := .ref k1) (C := RX10) (T := TX10) (N := 11) hx hb hts hi_X10 hown hK.1 hP 1 rfl rfl 1 (by decide) (hts (.fieldLink RX10 7 "AltimeterWatchModel" "s" "[I") (by decide +kernel)) (fun _ h9 => h9) rfl dX10_digest_57 ?_
  refine lv_iconst (v := 1) hx hb dX10_digest_60 (by decide) ?_
  refine z_iald (k := 1) hx hb hK.1 hP 0 rfl rfl (by decide) (by decide) dX10_digest_61 ?_
  refine lv_i2l hx hb dX10_digest_62 rfl ?_
  have hPc : va_P E.1 vwCl ([[(h0, .inr (9, [.int 0, .ref k1, .int sd, .ref k2, .ref k3, .int ln, .int at0, .int pt, .int mi, .int nu, .long h_52]))]] : List va_W).flatten H := zf_sub hP [1] rfl
  have hDc : va_D A ([[(h0, .inr (9, [.int 0, .ref k1, .int sd, .ref k2, .ref k3, .int ln, .int at0, .int pt, .int mi, .int nu, .long h_52]))]] : List va_W).flatten := zf_subD hD [1] (by decide) rfl
  refine z_mut (Sc := [[(h0, .inr (9, [.int 0, .ref k1, .int sd, .ref k2, .ref k3, .int ln, .int at0, .int pt, .int mi, .int nu, .long h_52]))]]) (Sr := [[(k1, .inl (E.2 0, 1160, .inl sv))]]) (W1 := [[(h0, .inr (9, [.int 0, .ref k1, .int sd, .ref k2, .ref k3, .int ln, .int at0, .int pt, .int mi, .int nu, .long (31 * h_52 + (((sv 1)).toInt64))]))]]) (va_runV (As := [.long ((sv 1)).toInt64]) (rest := []) ⟨hx, hb, hml, hown, hts⟩ (c_X10_mix l E h0 k1 k2 k3 0 sd ln at0 pt mi nu h_52 (((sv 1)).toInt64) H.size) (cwV 1 hts gX10_digest_X10_mix rfl rfl rfl (by decide +kernel) ⟨Nat.le_of_ble_eq_true rfl, Nat.le_of_ble_eq_true rfl⟩) ⟨zP.blind, va_recv hK.1 hPc (ci := 9) (q0 := 0) rfl rfl, z_pre hK hPc hDc⟩ rfl rfl hl.1 rfl (lv_room (Nat.le_of_ble_eq_true rfl)) dX10_digest_63 ⟨Nat.le_of_ble_eq_true rfl, Nat.le_of_ble_eq_true rfl⟩) hP hD hS hA [1] [0] rfl rfl (by decide) (by decide) (fun H locs hP hD hS => ?_)
  have hP : va_P E.1 vwCl ([[(k1, .inl (E.2 0, 1160, .inl sv))], [(h0, .inr (9, [.int 0, .ref k1, .int sd, .ref k2, .ref k3, .int ln, .int at0, .int pt, .int mi, .int nu, .long (31 * h_52 + (((sv 1)).toInt64))]))]] : List va_W).flatten H := hP
  have hD : va_D A ([[(k1, .inl (E.2 0, 1160, .inl sv))], [(h0, .inr (9, [.int 0, .ref k1, .int sd, .ref k2, .ref k3, .int ln, .int at0, .int pt, .int mi, .int nu, .long (31 * h_52 + (((sv 1)).toInt64))]))]] : List va_W).flatten := hD
  obtain ⟨h_63, eh_63⟩ : ∃ h9 : Int64, h9 = m_mix h_52 (sv 1) := ⟨_, rfl⟩
  have hP : va_P E.1 vwCl ([[(k1, .inl (E.2 0, 1160, .inl sv))], [(h0, .inr (9, [.int 0, .ref k1, .int sd, .ref k2, .ref k3, .int ln, .int at0, .int pt, .int mi, .int nu, .long h_63]))]] : List va_W).flatten H := by rw [eh_63]; exact hP
  have hD : va_D A ([[(k1, .inl (E.2 0, 1160, .inl sv))], [(h0, .inr (9, [.int 0, .ref k1, .int sd, .ref k2, .ref k3, .int ln, .int at0, .int pt, .int mi, .int nu, .long h_63]))]] : List va_W).flatten := by rw [eh_63]; exact hD
  refine W.eq (g2 := F0 Mi 66 ls []) rfl ?_
  refine lv_aload_n hx hb dX10_digest_66 rfl (lv_at hl 0 rfl) ?_
  refine lv_aload_n hx hb dX10_digest_67 rfl (lv_at hl 0 rfl) ?_
  refine va_get (D := E.1) (ci := 9) (v := .ref k1) (C := RX10) (T := TX10) (N := 11) hx hb hts hi_X10 hown hK.1 hP 1 rfl rfl 1 (by decide) (hts (.fieldLink RX10 7 "AltimeterWatchModel" "s" "[I") (by decide +kernel)) (fun _ h9 => h9) rfl dX10_digest_68 ?_
  refine lv_iconst (v := 5) hx hb dX10_digest_71 (by decide) ?_
  refine z_iald (k := 5) hx hb hK.1 hP 0 rfl rfl (by decide) (by decide) dX10_digest_72 ?_
  refine lv_i2l hx hb dX10_digest_73 rfl ?_
  have hPc : va_P E.1 vwCl ([[(h0, .inr (9, [.int 0, .ref k1, .int sd, .ref k2, .ref k3, .int ln, .int at0, .int pt, .int mi, .int nu, .long h_63]))]] : List va_W).flatten H := zf_sub hP [1] rfl
  have hDc : va_D A ([[(h0, .inr (9, [.int 0, .ref k1, .int sd, .ref k2, .ref k3, .int ln, .int at0, .int pt, .int mi, .int nu, .long h_63]))]] : List va_W).flatten := zf_subD hD [1] (by decide) rfl
  refine z_mut (Sc := [[(h0, .inr (9, [.int 0, .ref k1, .int sd, .ref k2, .ref k3, .int ln, .int at0, .int pt, .int mi, .int nu, .long h_63]))]]) (Sr := [[(k1, .inl (E.2 0, 1160, .inl sv))]]) (W1 := [[(h0, .inr (9, [.int 0, .ref k1, .int sd, .ref k2, .ref k3, .int ln, .int at0, .int pt, .int mi, .int nu, .long (31 * h_63 + (((sv 5)).toInt64))]))]]) (va_runV (As := [.long ((sv 5)).toInt64]) (rest := []) ⟨hx, hb, hml, hown, hts⟩ (c_X10_mix l E h0 k1 k2 k3 0 sd ln at0 pt mi nu h_63 (((sv 5)).toInt64) H.size) (cwV 1 hts gX10_digest_X10_mix rfl rfl rfl (by decide +kernel) ⟨Nat.le_of_ble_eq_true rfl, Nat.le_of_ble_eq_true rfl⟩) ⟨zP.blind, va_recv hK.1 hPc (ci := 9) (q0 := 0) rfl rfl, z_pre hK hPc hDc⟩ rfl rfl hl.1 rfl (lv_room (Nat.le_of_ble_eq_true rfl)) dX10_digest_74 ⟨Nat.le_of_ble_eq_true rfl, Nat.le_of_ble_eq_true rfl⟩) hP hD hS hA [1] [0] rfl rfl (by decide) (by decide) (fun H locs hP hD hS => ?_)
  have hP : va_P E.1 vwCl ([[(k1, .inl (E.2 0, 1160, .inl sv))], [(h0, .inr (9, [.int 0, .ref k1, .int sd, .ref k2, .ref k3, .int ln, .int at0, .int pt, .int mi, .int nu, .long (31 * h_63 + (((sv 5)).toInt64))]))]] : List va_W).flatten H := hP
  have hD : va_D A ([[(k1, .inl (E.2 0, 1160, .inl sv))], [(h0, .inr (9, [.int 0, .ref k1, .int sd, .ref k2, .ref k3, .int ln, .int at0, .int pt, .int mi, .int nu, .long (31 * h_63 + (((sv 5)).toInt64))]))]] : List va_W).flatten := hD
  obtain ⟨h_74, eh_74⟩ : ∃ h9 : Int64, h9 = m_mix h_63 (sv 5) := ⟨_, rfl⟩
  have hP : va_P E.1 vwCl ([[(k1, .inl (E.2 0, 1160, .inl sv))], [(h0, .inr (9, [.int 0, .ref k1, .int sd, .ref k2, .ref k3, .int ln, .int at0, .int pt, .int mi, .int nu, .long h_74]))]] : List va_W).flatten H := by rw [eh_74]; exact hP
  have hD : va_D A ([[(k1, .inl (E.2 0, 1160, .inl sv))], [(h0, .inr (9, [.int 0, .ref k1, .int sd, .ref k2, .ref k3, .int ln, .int at0, .int pt, .int mi, .int nu, .long h_74]))]] : List va_W).flatten := by rw [eh_74]; exact hD
  refine W.eq (g2 := F0 Mi 77 ls []) rfl ?_
  refine lv_aload_n hx hb dX10_digest_77 rfl (lv_at hl 0 rfl) ?_
  refine lv_aload_n hx hb dX10_digest_78 rfl (lv_at hl 0 rfl) ?_
  refine va_get (D := E.1) (ci := 9) (v := .ref k1) (C := RX10) (T := TX10) (N := 11) hx hb hts hi_X10 hown hK.1 hP 1 rfl rfl 1 (by decide) (hts (.fieldLink RX10 7 "AltimeterWatchModel" "s" "[I") (by decide +kernel)) (fun _ h9 => h9) rfl dX10_digest_79 ?_
  refine lv_bipush (v := 6) hx hb dX10_digest_82 (by decide) ?_
  refine z_iald (k := 6) hx hb hK.1 hP 0 rfl rfl (by decide) (by decide) dX10_digest_84 ?_
  refine lv_i2l hx hb dX10_digest_85 rfl ?_
  have hPc : va_P E.1 vwCl ([[(h0, .inr (9, [.int 0, .ref k1, .int sd, .ref k2, .ref k3, .int ln, .int at0, .int pt, .int mi, .int nu, .long h_74]))]] : List va_W).flatten H := zf_sub hP [1] rfl
  have hDc : va_D A ([[(h0, .inr (9, [.int 0, .ref k1, .int sd, .ref k2, .ref k3, .int ln, .int at0, .int pt, .int mi, .int nu, .long h_74]))]] : List va_W).flatten := zf_subD hD [1] (by decide) rfl
  refine z_mut (Sc := [[(h0, .inr (9, [.int 0, .ref k1, .int sd, .ref k2, .ref k3, .int ln, .int at0, .int pt, .int mi, .int nu, .long h_74]))]]) (Sr := [[(k1, .inl (E.2 0, 1160, .inl sv))]]) (W1 := [[(h0, .inr (9, [.int 0, .ref k1, .int sd, .ref k2, .ref k3, .int ln, .int at0, .int pt, .int mi, .int nu, .long (31 * h_74 + (((sv 6)).toInt64))]))]]) (va_runV (As := [.long ((sv 6)).toInt64]) (rest := []) ⟨hx, hb, hml, hown, hts⟩ (c_X10_mix l E h0 k1 k2 k3 0 sd ln at0 pt mi nu h_74 (((sv 6)).toInt64) H.size) (cwV 1 hts gX10_digest_X10_mix rfl rfl rfl (by decide +kernel) ⟨Nat.le_of_ble_eq_true rfl, Nat.le_of_ble_eq_true rfl⟩) ⟨zP.blind, va_recv hK.1 hPc (ci := 9) (q0 := 0) rfl rfl, z_pre hK hPc hDc⟩ rfl rfl hl.1 rfl (lv_room (Nat.le_of_ble_eq_true rfl)) dX10_digest_86 ⟨Nat.le_of_ble_eq_true rfl, Nat.le_of_ble_eq_true rfl⟩) hP hD hS hA [1] [0] rfl rfl (by decide) (by decide) (fun H locs hP hD hS => ?_)
  have hP : va_P E.1 vwCl ([[(k1, .inl (E.2 0, 1160, .inl sv))], [(h0, .inr (9, [.int 0, .ref k1, .int sd, .ref k2, .ref k3, .int ln, .int at0, .int pt, .int mi, .int nu, .long (31 * h_74 + (((sv 6)).toInt64))]))]] : List va_W).flatten H := hP
  have hD : va_D A ([[(k1, .inl (E.2 0, 1160, .inl sv))], [(h0, .inr (9, [.int 0, .ref k1, .int sd, .ref k2, .ref k3, .int ln, .int at0, .int pt, .int mi, .int nu, .long (31 * h_74 + (((sv 6)).toInt64))]))]] : List va_W).flatten := hD
  obtain ⟨h_86, eh_86⟩ : ∃ h9 : Int64, h9 = m_mix h_74 (sv 6) := ⟨_, rfl⟩
  have hP : va_P E.1 vwCl ([[(k1, .inl (E.2 0, 1160, .inl sv))], [(h0, .inr (9, [.int 0, .ref k1, .int sd, .ref k2, .ref k3, .int ln, .int at0, .int pt, .int mi, .int nu, .long h_86]))]] : List va_W).flatten H := by rw [eh_86]; exact hP
  have hD : va_D A ([[(k1, .inl (E.2 0, 1160, .inl sv))], [(h0, .inr (9, [.int 0, .ref k1, .int sd, .ref k2, .ref k3, .int ln, .int at0, .int pt, .int mi, .int nu, .long h_86]))]] : List va_W).flatten := by rw [eh_86]; exact hD
  refine W.eq (g2 := F0 Mi 89 ls []) rfl ?_
  refine lv_aload_n hx hb dX10_digest_89 rfl (lv_at hl 0 rfl) ?_
  refine lv_aload_n hx hb dX10_digest_90 rfl (lv_at hl 0 rfl) ?_
  refine va_get (D := E.1) (ci := 9) (v := .ref k1) (C := RX10) (T := TX10) (N := 11) hx hb hts hi_X10 hown hK.1 hP 1 rfl rfl 1 (by decide) (hts (.fieldLink RX10 7 "AltimeterWatchModel" "s" "[I") (by decide +kernel)) (fun _ h9 => h9) rfl dX10_digest_91 ?_
  refine lv_bipush (v := 7) hx hb dX10_digest_94 (by decide) ?_
  refine z_iald (k := 7) hx hb hK.1 hP 0 rfl rfl (by decide) (by decide) dX10_digest_96 ?_
  refine lv_i2l hx hb dX10_digest_97 rfl ?_
  have hPc : va_P E.1 vwCl ([[(h0, .inr (9, [.int 0, .ref k1, .int sd, .ref k2, .ref k3, .int ln, .int at0, .int pt, .int mi, .int nu, .long h_86]))]] : List va_W).flatten H := zf_sub hP [1] rfl
  have hDc : va_D A ([[(h0, .inr (9, [.int 0, .ref k1, .int sd, .ref k2, .ref k3, .int ln, .int at0, .int pt, .int mi, .int nu, .long h_86]))]] : List va_W).flatten := zf_subD hD [1] (by decide) rfl
  refine z_mut (Sc := [[(h0, .inr (9, [.int 0, .ref k1, .int sd, .ref k2, .ref k3, .int ln, .int at0, .int pt, .int mi, .int nu, .long h_86]))]]) (Sr := [[(k1, .inl (E.2 0, 1160, .inl sv))]]) (W1 := [[(h0, .inr (9, [.int 0, .ref k1, .int sd, .ref k2, .ref k3, .int ln, .int at0, .int pt, .int mi, .int nu, .long (31 * h_86 + (((sv 7)).toInt64))]))]]) (va_runV (As := [.long ((sv 7)).toInt64]) (rest := []) ⟨hx, hb, hml, hown, hts⟩ (c_X10_mix l E h0 k1 k2 k3 0 sd ln at0 pt mi nu h_86 (((sv 7)).toInt64) H.size) (cwV 1 hts gX10_digest_X10_mix rfl rfl rfl (by decide +kernel) ⟨Nat.le_of_ble_eq_true rfl, Nat.le_of_ble_eq_true rfl⟩) ⟨zP.blind, va_recv hK.1 hPc (ci := 9) (q0 := 0) rfl rfl, z_pre hK hPc hDc⟩ rfl rfl hl.1 rfl (lv_room (Nat.le_of_ble_eq_true rfl)) dX10_digest_98 ⟨Nat.le_of_ble_eq_true rfl, Nat.le_of_ble_eq_true rfl⟩) hP hD hS hA [1] [0] rfl rfl (by decide) (by decide) (fun H locs hP hD hS => ?_)
  have hP : va_P E.1 vwCl ([[(k1, .inl (E.2 0, 1160, .inl sv))], [(h0, .inr (9, [.int 0, .ref k1, .int sd, .ref k2, .ref k3, .int ln, .int at0, .int pt, .int mi, .int nu, .long (31 * h_86 + (((sv 7)).toInt64))]))]] : List va_W).flatten H := hP
  have hD : va_D A ([[(k1, .inl (E.2 0, 1160, .inl sv))], [(h0, .inr (9, [.int 0, .ref k1, .int sd, .ref k2, .ref k3, .int ln, .int at0, .int pt, .int mi, .int nu, .long (31 * h_86 + (((sv 7)).toInt64))]))]] : List va_W).flatten := hD
  obtain ⟨h_98, eh_98⟩ : ∃ h9 : Int64, h9 = m_mix h_86 (sv 7) := ⟨_, rfl⟩
  have hP : va_P E.1 vwCl ([[(k1, .inl (E.2 0, 1160, .inl sv))], [(h0, .inr (9, [.int 0, .ref k1, .int sd, .ref k2, .ref k3, .int ln, .int at0, .int pt, .int mi, .int nu, .long h_98]))]] : List va_W).flatten H := by rw [eh_98]; exact hP
  have hD : va_D A ([[(k1, .inl (E.2 0, 1160, .inl sv))], [(h0, .inr (9, [.int 0, .ref k1, .int sd, .ref k2, .ref k3, .int ln, .int at0, .int pt, .int mi, .int nu, .long h_98]))]] : List va_W).flatten := by rw [eh_98]; exact hD
  refine W.eq (g2 := F0 Mi 101 ls []) rfl ?_
  refine lv_aload_n hx hb dX10_digest_101 rfl (lv_at hl 0 rfl) ?_
  refine lv_aload_n hx hb dX10_digest_102 rfl (lv_at hl 0 rfl) ?_
  refine va_get (D := E.1) (ci := 9) (v := .ref k1) (C := RX10) (T := TX10) (N := 11) hx hb hts hi_X10 hown hK.1 hP 1 rfl rfl 1 (by decide) (hts (.fieldLink RX10 7 "AltimeterWatchModel" "s" "[I") (by decide +kernel)) (fun _ h9 => h9) rfl dX10_digest_103 ?_
  refine lv_bipush (v := 8) hx hb dX10_digest_106 (by decide) ?_
  refine z_iald (k := 8) hx hb hK.1 hP 0 rfl rfl (by decide) (by decide) dX10_digest_108 ?_
  refine lv_i2l hx hb dX10_digest_109 rfl ?_
  have hPc : va_P E.1 vwCl ([[(h0, .inr (9, [.int 0, .ref k1, .int sd, .ref k2, .ref k3, .int ln, .int at0, .int pt, .int mi, .int nu, .long h_98]))]] : List va_W).flatten H := zf_sub hP [1] rfl
  have hDc : va_D A ([[(h0, .inr (9, [.int 0, .ref k1, .int sd, .ref k2, .ref k3, .int ln, .int at0, .int pt, .int mi, .int nu, .long h_98]))]] : List va_W).flatten := zf_subD hD [1] (by decide) rfl
  refine z_mut (Sc := [[(h0, .inr (9, [.int 0, .ref k1, .int sd, .ref k2, .ref k3, .int ln, .int at0, .int pt, .int mi, .int nu, .long h_98]))]]) (Sr := [[(k1, .inl (E.2 0, 1160, .inl sv))]]) (W1 := [[(h0, .inr (9, [.int 0, .ref k1, .int sd, .ref k2, .ref k3, .int ln, .int at0, .int pt, .int mi, .int nu, .long (31 * h_98 + (((sv 8)).toInt64))]))]]) (va_runV (As := [.long ((sv 8)).toInt64]) (rest := []) ⟨hx, hb, hml, hown, hts⟩ (c_X10_mix l E h0 k1 k2 k3 0 sd ln at0 pt mi nu h_98 (((sv 8)).toInt64) H.size) (cwV 1 hts gX10_digest_X10_mix rfl rfl rfl (by decide +kernel) ⟨Nat.le_of_ble_eq_true rfl, Nat.le_of_ble_eq_true rfl⟩) ⟨zP.blind, va_recv hK.1 hPc (ci := 9) (q0 := 0) rfl rfl, z_pre hK hPc hDc⟩ rfl rfl hl.1 rfl (lv_room (Nat.le_of_ble_eq_true rfl)) dX10_digest_110 ⟨Nat.le_of_ble_eq_true rfl, Nat.le_of_ble_eq_true rfl⟩) hP hD hS hA [1] [0] rfl rfl (by decide) (by decide) (fun H locs hP hD hS => ?_)
  have hP : va_P E.1 vwCl ([[(k1, .inl (E.2 0, 1160, .inl sv))], [(h0, .inr (9, [.int 0, .ref k1, .int sd, .ref k2, .ref k3, .int ln, .int at0, .int pt, .int mi, .int nu, .long (31 * h_98 + (((sv 8)).toInt64))]))]] : List va_W).flatten H := hP
  have hD : va_D A ([[(k1, .inl (E.2 0, 1160, .inl sv))], [(h0, .inr (9, [.int 0, .ref k1, .int sd, .ref k2, .ref k3, .int ln, .int at0, .int pt, .int mi, .int nu, .long (31 * h_98 + (((sv 8)).toInt64))]))]] : List va_W).flatten := hD
  obtain ⟨h_110, eh_110⟩ : ∃ h9 : Int64, h9 = m_mix h_98 (sv 8) := ⟨_, rfl⟩
  have hP : va_P E.1 vwCl ([[(k1, .inl (E.2 0, 1160, .inl sv))], [(h0, .inr (9, [.int 0, .ref k1, .int sd, .ref k2, .ref k3, .int ln, .int at0, .int pt, .int mi, .int nu, .long h_110]))]] : List va_W).flatten H := by rw [eh_110]; exact hP
  have hD : va_D A ([[(k1, .inl (E.2 0, 1160, .inl sv))], [(h0, .inr (9, [.int 0, .ref k1, .int sd, .ref k2, .ref k3, .int ln, .int at0, .int pt, .int mi, .int nu, .long h_110]))]] : List va_W).flatten := by rw [eh_110]; exact hD
  refine W.eq (g2 := F0 Mi 113 ls []) rfl ?_
  refine lv_aload_n hx hb dX10_digest_113 rfl (lv_at hl 0 rfl) ?_
  refine lv_aload_n hx hb dX10_digest_114 rfl (lv_at hl 0 rfl) ?_
  refine va_get (D := E.1) (ci := 9) (v := .ref k1) (C := RX10) (T := TX10) (N := 11) hx hb hts hi_X10 hown hK.1 hP 1 rfl rfl 1 (by decide) (hts (.fieldLink RX10 7 "AltimeterWatchModel" "s" "[I") (by decide +kernel)) (fun _ h9 => h9) rfl dX10_digest_115 ?_
  refine lv_bipush (v := 9) hx hb dX10_digest_118 (by decide) ?_
  refine z_iald (k := 9) hx hb hK.1 hP 0 rfl rfl (by decide) (by decide) dX10_digest_120 ?_
  refine lv_i2l hx hb dX10_digest_121 rfl ?_
  have hPc : va_P E.1 vwCl ([[(h0, .inr (9, [.int 0, .ref k1, .int sd, .ref k2, .ref k3, .int ln, .int at0, .int pt, .int mi, .int nu, .long h_110]))]] : List va_W).flatten H := zf_sub hP [1] rfl
  have hDc : va_D A ([[(h0, .inr (9, [.int 0, .ref k1, .int sd, .ref k2, .ref k3, .int ln, .int at0, .int pt, .int mi, .int nu, .long h_110]))]] : List va_W).flatten := zf_subD hD [1] (by decide) rfl
  refine z_mut (Sc := [[(h0, .inr (9, [.int 0, .ref k1, .int sd, .ref k2, .ref k3, .int ln, .int at0, .int pt, .int mi, .int nu, .long h_110]))]]) (Sr := [[(k1, .inl (E.2 0, 1160, .inl sv))]]) (W1 := [[(h0, .inr (9, [.int 0, .ref k1, .int sd, .ref k2, .ref k3, .int ln, .int at0, .int pt, .int mi, .int nu, .long (31 * h_110 + (((sv 9)).toInt64))]))]]) (va_runV (As := [.long ((sv 9)).toInt64]) (rest := []) ⟨hx, hb, hml, hown, hts⟩ (c_X10_mix l E h0 k1 k2 k3 0 sd ln at0 pt mi nu h_110 (((sv 9)).toInt64) H.size) (cwV 1 hts gX10_digest_X10_mix rfl rfl rfl (by decide +kernel) ⟨Nat.le_of_ble_eq_true rfl, Nat.le_of_ble_eq_true rfl⟩) ⟨zP.blind, va_recv hK.1 hPc (ci := 9) (q0 := 0) rfl rfl, z_pre hK hPc hDc⟩ rfl rfl hl.1 rfl (lv_room (Nat.le_of_ble_eq_true rfl)) dX10_digest_122 ⟨Nat.le_of_ble_eq_true rfl, Nat.le_of_ble_eq_true rfl⟩) hP hD hS hA [1] [0] rfl rfl (by decide) (by decide) (fun H locs hP hD hS => ?_)
  have hP : va_P E.1 vwCl ([[(k1, .inl (E.2 0, 1160, .inl sv))], [(h0, .inr (9, [.int 0, .ref k1, .int sd, .ref k2, .ref k3, .int ln, .int at0, .int pt, .int mi, .int nu, .long (31 * h_110 + (((sv 9)).toInt64))]))]] : List va_W).flatten H := hP
  have hD : va_D A ([[(k1, .inl (E.2 0, 1160, .inl sv))], [(h0, .inr (9, [.int 0, .ref k1, .int sd, .ref k2, .ref k3, .int ln, .int at0, .int pt, .int mi, .int nu, .long (31 * h_110 + (((sv 9)).toInt64))]))]] : List va_W).flatten := hD
  obtain ⟨h_122, eh_122⟩ : ∃ h9 : Int64, h9 = m_mix h_110 (sv 9) := ⟨_, rfl⟩
  have hP : va_P E.1 vwCl ([[(k1, .inl (E.2 0, 1160, .inl sv))], [(h0, .inr (9, [.int 0, .ref k1, .int sd, .ref k2, .ref k3, .int ln, .int at0, .int pt, .int mi, .int nu, .long h_122]))]] : List va_W).flatten H := by rw [eh_122]; exact hP
  have hD : va_D A ([[(k1, .inl (E.2 0, 1160, .inl sv))], [(h0, .inr (9, [.int 0, .ref k1, .int sd, .ref k2, .ref k3, .int ln, .int at0, .int pt, .int mi, .int nu, .long h_122]))]] : List va_W).flatten := by rw [eh_122]; exact hD
  refine W.eq (g2 := F0 Mi 125 ls []) rfl ?_
  refine lv_aload_n hx hb dX10_digest_125 rfl (lv_at hl 0 rfl) ?_
  refine lv_aload_n hx hb dX10_digest_126 rfl (lv_at hl 0 rfl) ?_
  refine va_get (D := E.1) (ci := 9) (v := .ref k1) (C := RX10) (T := TX10) (N := 11) hx hb hts hi_X10 hown hK.1 hP 1 rfl rfl 1 (by decide) (hts (.fieldLink RX10 7 "AltimeterWatchModel" "s" "[I") (by decide +kernel)) (fun _ h9 => h9) rfl dX10_digest_127 ?_
  refine lv_bipush (v := 14) hx hb dX10_digest_130 (by decide) ?_
  refine z_iald (k := 14) hx hb hK.1 hP 0 rfl rfl (by decide) (by decide) dX10_digest_132 ?_
  refine lv_i2l hx hb dX10_digest_133 rfl ?_
  have hPc : va_P E.1 vwCl ([[(h0, .inr (9, [.int 0, .ref k1, .int sd, .ref k2, .ref k3, .int ln, .int at0, .int pt, .int mi, .int nu, .long h_122]))]] : List va_W).flatten H := zf_sub hP [1] rfl
  have hDc : va_D A ([[(h0, .inr (9, [.int 0, .ref k1, .int sd, .ref k2, .ref k3, .int ln, .int at0, .int pt, .int mi, .int nu, .long h_122]))]] : List va_W).flatten := zf_subD hD [1] (by decide) rfl
  refine z_mut (Sc := [[(h0, .inr (9, [.int 0, .ref k1, .int sd, .ref k2, .ref k3, .int ln, .int at0, .int pt, .int mi, .int nu, .long h_122]))]]) (Sr := [[(k1, .inl (E.2 0, 1160, .inl sv))]]) (W1 := [[(h0, .inr (9, [.int 0, .ref k1, .int sd, .ref k2, .ref k3, .int ln, .int at0, .int pt, .int mi, .int nu, .long (31 * h_122 + (((sv 14)).toInt64))]))]]) (va_runV (As := [.long ((sv 14)).toInt64]) (rest := []) ⟨hx, hb, hml, hown, hts⟩ (c_X10_mix l E h0 k1 k2 k3 0 sd ln at0 pt mi nu h_122 (((sv 14)).toInt64) H.size) (cwV 1 hts gX10_digest_X10_mix rfl rfl rfl (by decide +kernel) ⟨Nat.le_of_ble_eq_true rfl, Nat.le_of_ble_eq_true rfl⟩) ⟨zP.blind, va_recv hK.1 hPc (ci := 9) (q0 := 0) rfl rfl, z_pre hK hPc hDc⟩ rfl rfl hl.1 rfl (lv_room (Nat.le_of_ble_eq_true rfl)) dX10_digest_134 ⟨Nat.le_of_ble_eq_true rfl, Nat.le_of_ble_eq_true rfl⟩) hP hD hS hA [1] [0] rfl rfl (by decide) (by decide) (fun H locs hP hD hS => ?_)
  have hP : va_P E.1 vwCl ([[(k1, .inl (E.2 0, 1160, .inl sv))], [(h0, .inr (9, [.int 0, .ref k1, .int sd, .ref k2, .ref k3, .int ln, .int at0, .int pt, .int mi, .int nu, .long (31 * h_122 + (((sv 14)).toInt64))]))]] : List va_W).flatten H := hP
  have hD : va_D A ([[(k1, .inl (E.2 0, 1160, .inl sv))], [(h0, .inr (9, [.int 0, .ref k1, .int sd, .ref k2, .ref k3, .int ln, .int at0, .int pt, .int mi, .int nu, .long (31 * h_122 + (((sv 14)).toInt64))]))]] : List va_W).flatten := hD
  obtain ⟨h_134, eh_134⟩ : ∃ h9 : Int64, h9 = m_mix h_122 (sv 14) := ⟨_, rfl⟩
  have hP : va_P E.1 vwCl ([[(k1, .inl (E.2 0, 1160, .inl sv))], [(h0, .inr (9, [.int 0, .ref k1, .int sd, .ref k2, .ref k3, .int ln, .int at0, .int pt, .int mi, .int nu, .long h_134]))]] : List va_W).flatten H := by rw [eh_134]; exact hP
  have hD : va_D A ([[(k1, .inl (E.2 0, 1160, .inl sv))], [(h0, .inr (9, [.int 0, .ref k1, .int sd, .ref k2, .ref k3, .int ln, .int at0, .int pt, .int mi, .int nu, .long h_134]))]] : List va_W).flatten := by rw [eh_134]; exact hD
  refine W.eq (g2 := F0 Mi 137 ls []) rfl ?_
  refine lv_aload_n hx hb dX10_digest_137 rfl (lv_at hl 0 rfl) ?_
  refine lv_aload_n hx hb dX10_digest_138 rfl (lv_at hl 0 rfl) ?_
  refine lv_iconst (v := 0) hx hb dX10_digest_139 (by decide) ?_
  have hPc : va_P E.1 vwCl ([[(h0, .inr (9, [.int 0, .ref k1, .int sd, .ref k2, .ref k3, .int ln, .int at0, .int pt, .int mi, .int nu, .long h_134]))], [(k1, .inl (E.2 0, 1160, .inl sv))]] : List va_W).flatten H := zf_sub hP [1, 0] rfl
  refine z_rdv (va_runV (As := [.int 0]) (rest := [.ref h0]) ⟨hx, hb, hml, hown, hts⟩ (c_X10_fallOf l E h0 k1 k2 k3 0 sd ln at0 pt mi nu h_134 0 0 rfl (by omega) sv m hm hm6) (cwV 1 hts gX10_digest_X10_fallOf rfl rfl rfl (by decide +kernel) ⟨Nat.le_of_ble_eq_true rfl, Nat.le_of_ble_eq_true rfl⟩) ⟨zPr.blind, va_recv hK.1 hPc (ci := 9) (q0 := 0) rfl rfl, z_prer hK hPc⟩ rfl rfl hl.1 rfl (lv_room (Nat.le_of_ble_eq_true rfl)) dX10_digest_140 ⟨Nat.le_of_ble_eq_true rfl, Nat.le_of_ble_eq_true rfl⟩) ?_
  refine W.eq (g2 := F0 Mi 143 ls [.int (m_fallM sv 0 m), .ref h0]) rfl ?_
  refine lv_i2l hx hb dX10_digest_143 rfl ?_
  have hPc : va_P E.1 vwCl ([[(h0, .inr (9, [.int 0, .ref k1, .int sd, .ref k2, .ref k3, .int ln, .int at0, .int pt, .int mi, .int nu, .long h_134]))]] : List va_W).flatten H := zf_sub hP [1] rfl
  have hDc : va_D A ([[(h0, .inr (9, [.int 0, .ref k1, .int sd, .ref k2, .ref k3, .int ln, .int at0, .int pt, .int mi, .int nu, .long h_134]))]] : List va_W).flatten := zf_subD hD [1] (by decide) rfl
  refine z_mut (Sc := [[(h0, .inr (9, [.int 0, .ref k1, .int sd, .ref k2, .ref k3, .int ln, .int at0, .int pt, .int mi, .int nu, .long h_134]))]]) (Sr := [[(k1, .inl (E.2 0, 1160, .inl sv))]]) (W1 := [[(h0, .inr (9, [.int 0, .ref k1, .int sd, .ref k2, .ref k3, .int ln, .int at0, .int pt, .int mi, .int nu, .long (31 * h_134 + (((m_fallM sv 0 m)).toInt64))]))]]) (va_runV (As := [.long ((m_fallM sv 0 m)).toInt64]) (rest := []) ⟨hx, hb, hml, hown, hts⟩ (c_X10_mix l E h0 k1 k2 k3 0 sd ln at0 pt mi nu h_134 (((m_fallM sv 0 m)).toInt64) H.size) (cwV 1 hts gX10_digest_X10_mix rfl rfl rfl (by decide +kernel) ⟨Nat.le_of_ble_eq_true rfl, Nat.le_of_ble_eq_true rfl⟩) ⟨zP.blind, va_recv hK.1 hPc (ci := 9) (q0 := 0) rfl rfl, z_pre hK hPc hDc⟩ rfl rfl hl.1 rfl (lv_room (Nat.le_of_ble_eq_true rfl)) dX10_digest_144 ⟨Nat.le_of_ble_eq_true rfl, Nat.le_of_ble_eq_true rfl⟩) hP hD hS hA [1] [0] rfl rfl (by decide) (by decide) (fun H locs hP hD hS => ?_)
  have hP : va_P E.1 vwCl ([[(k1, .inl (E.2 0, 1160, .inl sv))], [(h0, .inr (9, [.int 0, .ref k1, .int sd, .ref k2, .ref k3, .int ln, .int at0, .int pt, .int mi, .int nu, .long (31 * h_134 + (((m_fallM sv 0 m)).toInt64))]))]] : List va_W).flatten H := hP
  have hD : va_D A ([[(k1, .inl (E.2 0, 1160, .inl sv))], [(h0, .inr (9, [.int 0, .ref k1, .int sd, .ref k2, .ref k3, .int ln, .int at0, .int pt, .int mi, .int nu, .long (31 * h_134 + (((m_fallM sv 0 m)).toInt64))]))]] : List va_W).flatten := hD
  obtain ⟨h_144, eh_144⟩ : ∃ h9 : Int64, h9 = m_mix h_134 (m_fallM sv 0 m) := ⟨_, rfl⟩
  have hP : va_P E.1 vwCl ([[(k1, .inl (E.2 0, 1160, .inl sv))], [(h0, .inr (9, [.int 0, .ref k1, .int sd, .ref k2, .ref k3, .int ln, .int at0, .int pt, .int mi, .int nu, .long h_144]))]] : List va_W).flatten H := by rw [eh_144]; exact hP
  have hD : va_D A ([[(k1, .inl (E.2 0, 1160, .inl sv))], [(h0, .inr (9, [.int 0, .ref k1, .int sd, .ref k2, .ref k3, .int ln, .int at0, .int pt, .int mi, .int nu, .long h_144]))]] : List va_W).flatten := by rw [eh_144]; exact hD
  refine W.eq (g2 := F0 Mi 147 ls []) rfl ?_
  refine lv_aload_n hx hb dX10_digest_147 rfl (lv_at hl 0 rfl) ?_
  refine lv_aload_n hx hb dX10_digest_148 rfl (lv_at hl 0 rfl) ?_
  refine va_get (D := E.1) (ci := 9) (v := .ref k1) (C := RX10) (T := TX10) (N := 11) hx hb hts hi_X10 hown hK.1 hP 1 rfl rfl 1 (by decide) (hts (.fieldLink RX10 7 "AltimeterWatchModel" "s" "[I") (by decide +kernel)) (fun _ h9 => h9) rfl dX10_digest_149 ?_
  refine lv_bipush (v := 12) hx hb dX10_digest_152 (by decide) ?_
  refine z_iald (k := 12) hx hb hK.1 hP 0 rfl rfl (by decide) (by decide) dX10_digest_154 ?_
  refine lv_i2l hx hb dX10_digest_155 rfl ?_
  have hPc : va_P E.1 vwCl ([[(h0, .inr (9, [.int 0, .ref k1, .int sd, .ref k2, .ref k3, .int ln, .int at0, .int pt, .int mi, .int nu, .long h_144]))]] : List va_W).flatten H := zf_sub hP [1] rfl
  have hDc : va_D A ([[(h0, .inr (9, [.int 0, .ref k1, .int sd, .ref k2, .ref k3, .int ln, .int at0, .int pt, .int mi, .int nu, .long h_144]))]] : List va_W).flatten := zf_subD hD [1] (by decide) rfl
  refine z_mut (Sc := [[(h0, .inr (9, [.int 0, .ref k1, .int sd, .ref k2, .ref k3, .int ln, .int at0, .int pt, .int mi, .int nu, .long h_144]))]]) (Sr := [[(k1, .inl (E.2 0, 1160, .inl sv))]]) (W1 := [[(h0, .inr (9, [.int 0, .ref k1, .int sd, .ref k2, .ref k3, .int ln, .int at0, .int pt, .int mi, .int nu, .long (31 * h_144 + (((sv 12)).toInt64))]))]]) (va_runV (As := [.long ((sv 12)).toInt64]) (rest := []) ⟨hx, hb, hml, hown, hts⟩ (c_X10_mix l E h0 k1 k2 k3 0 sd ln at0 pt mi nu h_144 (((sv 12)).toInt64) H.size) (cwV 1 hts gX10_digest_X10_mix rfl rfl rfl (by decide +kernel) ⟨Nat.le_of_ble_eq_true rfl, Nat.le_of_ble_eq_true rfl⟩) ⟨zP.blind, va_recv hK.1 hPc (ci := 9) (q0 := 0) rfl rfl, z_pre hK hPc hDc⟩ rfl rfl hl.1 rfl (lv_room (Nat.le_of_ble_eq_true rfl)) dX10_digest_156 ⟨Nat.le_of_ble_eq_true rfl, Nat.le_of_ble_eq_true rfl⟩) hP hD hS hA [1] [0] rfl rfl (by decide) (by decide) (fun H locs hP hD hS => ?_)
  have hP : va_P E.1 vwCl ([[(k1, .inl (E.2 0, 1160, .inl sv))], [(h0, .inr (9, [.int 0, .ref k1, .int sd, .ref k2, .ref k3, .int ln, .int at0, .int pt, .int mi, .int nu, .long (31 * h_144 + (((sv 12)).toInt64))]))]] : List va_W).flatten H := hP
  have hD : va_D A ([[(k1, .inl (E.2 0, 1160, .inl sv))], [(h0, .inr (9, [.int 0, .ref k1, .int sd, .ref k2, .ref k3, .int ln, .int at0, .int pt, .int mi, .int nu, .long (31 * h_144 + (((sv 12)).toInt64))]))]] : List va_W).flatten := hD
  obtain ⟨h_156, eh_156⟩ : ∃ h9 : Int64, h9 = m_mix h_144 (sv 12) := ⟨_, rfl⟩
  have hP : va_P E.1 vwCl ([[(k1, .inl (E.2 0, 1160, .inl sv))], [(h0, .inr (9, [.int 0, .ref k1, .int sd, .ref k2, .ref k3, .int ln, .int at0, .int pt, .int mi, .int nu, .long h_156]))]] : List va_W).flatten H := by rw [eh_156]; exact hP
  have hD : va_D A ([[(k1, .inl (E.2 0, 1160, .inl sv))], [(h0, .inr (9, [.int 0, .ref k1, .int sd, .ref k2, .ref k3, .int ln, .int at0, .int pt, .int mi, .int nu, .long h_156]))]] : List va_W).flatten := by rw [eh_156]; exact hD
  refine W.eq (g2 := F0 Mi 159 ls []) rfl ?_
  refine lv_aload_n hx hb dX10_digest_159 rfl (lv_at hl 0 rfl) ?_
  refine lv_aload_n hx hb dX10_digest_160 rfl (lv_at hl 0 rfl) ?_
  refine lv_iconst (v := 0) hx hb dX10_digest_161 (by decide) ?_
  have hPc : va_P E.1 vwCl ([[(h0, .inr (9, [.int 0, .ref k1, .int sd, .ref k2, .ref k3, .int ln, .int at0, .int pt, .int mi, .int nu, .long h_156]))], [(k1, .inl (E.2 0, 1160, .inl sv))]] : List va_W).flatten H := zf_sub hP [1, 0] rfl
  refine z_rdv (va_runV (As := [.int 0]) (rest := [.ref h0]) ⟨hx, hb, hml, hown, hts⟩ (c_X10_hasAlarm l E h0 k1 k2 k3 0 sd ln at0 pt mi nu h_156 0 0 rfl (by omega) sv m hm hm6) (cwV 1 hts gX10_digest_X10_hasAlarm rfl rfl rfl (by decide +kernel) ⟨Nat.le_of_ble_eq_true rfl, Nat.le_of_ble_eq_true rfl⟩) ⟨zPr.blind, va_recv hK.1 hPc (ci := 9) (q0 := 0) rfl rfl, z_prer hK hPc⟩ rfl rfl hl.1 rfl (lv_room (Nat.le_of_ble_eq_true rfl)) dX10_digest_162 ⟨Nat.le_of_ble_eq_true rfl, Nat.le_of_ble_eq_true rfl⟩) ?_
  refine W.eq (g2 := F0 Mi 165 ls [.int (m_alM sv 0 m), .ref h0]) rfl ?_
  refine lv_if_eq (tgt := 172) hx hb dX10_digest_165 (by decide) (fun c_165 => ?_) (fun c_165 => ?_)
  · refine lv_lconst (v := 0) hx hb dX10_digest_172 (by decide) ?_
    refine z_topl (y := (m_alM sv 0 m).toInt64) (by rw [c_165]; rfl) ?_
    have hPc : va_P E.1 vwCl ([[(h0, .inr (9, [.int 0, .ref k1, .int sd, .ref k2, .ref k3, .int ln, .int at0, .int pt, .int mi, .int nu, .long h_156]))]] : List va_W).flatten H := zf_sub hP [1] rfl
    have hDc : va_D A ([[(h0, .inr (9, [.int 0, .ref k1, .int sd, .ref k2, .ref k3, .int ln, .int at0, .int pt, .int mi, .int nu, .long h_156]))]] : List va_W).flatten := zf_subD hD [1] (by decide) rfl
    refine z_mut (Sc := [[(h0, .inr (9, [.int 0, .ref k1, .int sd, .ref k2, .ref k3, .int ln, .int at0, .int pt, .int mi, .int nu, .long h_156]))]]) (Sr := [[(k1, .inl (E.2 0, 1160, .inl sv))]]) (W1 := [[(h0, .inr (9, [.int 0, .ref k1, .int sd, .ref k2, .ref k3, .int ln, .int at0, .int pt, .int mi, .int nu, .long (31 * h_156 + ((m_alM sv 0 m).toInt64))]))]]) (va_runV (As := [.long (m_alM sv 0 m).toInt64]) (rest := []) ⟨hx, hb, hml, hown, hts⟩ (c_X10_mix l E h0 k1 k2 k3 0 sd ln at0 pt mi nu h_156 ((m_alM sv 0 m).toInt64) H.size) (cwV 1 hts gX10_digest_X10_mix rfl rfl rfl (by decide +kernel) ⟨Nat.le_of_ble_eq_true rfl, Nat.le_of_ble_eq_true rfl⟩) ⟨zP.blind, va_recv hK.1 hPc (ci := 9) (q0 := 0) rfl rfl, z_pre hK hPc hDc⟩ rfl rfl hl.1 rfl (lv_room (Nat.le_of_ble_eq_true rfl)) dX10_digest_173 ⟨Nat.le_of_ble_eq_true rfl, Nat.le_of_ble_eq_true rfl⟩) hP hD hS hA [1] [0] rfl rfl (by decide) (by decide) (fun H locs hP hD hS => ?_)
    have hP : va_P E.1 vwCl ([[(k1, .inl (E.2 0, 1160, .inl sv))], [(h0, .inr (9, [.int 0, .ref k1, .int sd, .ref k2, .ref k3, .int ln, .int at0, .int pt, .int mi, .int nu, .long (31 * h_156 + ((m_alM sv 0 m).toInt64))]))]] : List va_W).flatten H := hP
    have hD : va_D A ([[(k1, .inl (E.2 0, 1160, .inl sv))], [(h0, .inr (9, [.int 0, .ref k1, .int sd, .ref k2, .ref k3, .int ln, .int at0, .int pt, .int mi, .int nu, .long (31 * h_156 + ((m_alM sv 0 m).toInt64))]))]] : List va_W).flatten := hD
    obtain ⟨h_173, eh_173⟩ : ∃ h9 : Int64, h9 = m_mix h_156 (m_alM sv 0 m) := ⟨_, rfl⟩
    have hP : va_P E.1 vwCl ([[(k1, .inl (E.2 0, 1160, .inl sv))], [(h0, .inr (9, [.int 0, .ref k1, .int sd, .ref k2, .ref k3, .int ln, .int at0, .int pt, .int mi, .int nu, .long h_173]))]] : List va_W).flatten H := by rw [eh_173]; exact hP
    have hD : va_D A ([[(k1, .inl (E.2 0, 1160, .inl sv))], [(h0, .inr (9, [.int 0, .ref k1, .int sd, .ref k2, .ref k3, .int ln, .int at0, .int pt, .int mi, .int nu, .long h_173]))]] : List va_W).flatten := by rw [eh_173]; exact hD
    refine W.eq (g2 := F0 Mi 176 ls []) rfl ?_
    refine lv_aload_n hx hb dX10_digest_176 rfl (lv_at hl 0 rfl) ?_
    refine lv_aload_n hx hb dX10_digest_177 rfl (lv_at hl 0 rfl) ?_
    refine va_get (D := E.1) (ci := 9) (v := .ref k1) (C := RX10) (T := TX10) (N := 11) hx hb hts hi_X10 hown hK.1 hP 1 rfl rfl 1 (by decide) (hts (.fieldLink RX10 7 "AltimeterWatchModel" "s" "[I") (by decide +kernel)) (fun _ h9 => h9) rfl dX10_digest_178 ?_
    refine lv_bipush (v := 75) hx hb dX10_digest_181 (by decide) ?_
    refine z_iald (k := 75) hx hb hK.1 hP 0 rfl rfl (by decide) (by decide) dX10_digest_183 ?_
    refine lv_i2l hx hb dX10_digest_184 rfl ?_
    have hPc : va_P E.1 vwCl ([[(h0, .inr (9, [.int 0, .ref k1, .int sd, .ref k2, .ref k3, .int ln, .int at0, .int pt, .int mi, .int nu, .long h_173]))]] : List va_W).flatten H := zf_sub hP [1] rfl
    have hDc : va_D A ([[(h0, .inr (9, [.int 0, .ref k1, .int sd, .ref k2, .ref k3, .int ln, .int at0, .int pt, .int mi, .int nu, .long h_173]))]] : List va_W).flatten := zf_subD hD [1] (by decide) rfl
    refine z_mut (Sc := [[(h0, .inr (9, [.int 0, .ref k1, .int sd, .ref k2, .ref k3, .int ln, .int at0, .int pt, .int mi, .int nu, .long h_173]))]]) (Sr := [[(k1, .inl (E.2 0, 1160, .inl sv))]]) (W1 := [[(h0, .inr (9, [.int 0, .ref k1, .int sd, .ref k2, .ref k3, .int ln, .int at0, .int pt, .int mi, .int nu, .long (31 * h_173 + (((sv 75)).toInt64))]))]]) (va_runV (As := [.long ((sv 75)).toInt64]) (rest := []) ⟨hx, hb, hml, hown, hts⟩ (c_X10_mix l E h0 k1 k2 k3 0 sd ln at0 pt mi nu h_173 (((sv 75)).toInt64) H.size) (cwV 1 hts gX10_digest_X10_mix rfl rfl rfl (by decide +kernel) ⟨Nat.le_of_ble_eq_true rfl, Nat.le_of_ble_eq_true rfl⟩) ⟨zP.blind, va_recv hK.1 hPc (ci := 9) (q0 := 0) rfl rfl, z_pre hK hPc hDc⟩ rfl rfl hl.1 rfl (lv_room (Nat.le_of_ble_eq_true rfl)) dX10_digest_185 ⟨Nat.le_of_ble_eq_true rfl, Nat.le_of_ble_eq_true rfl⟩) hP hD hS hA [1] [0] rfl rfl (by decide) (by decide) (fun H locs hP hD hS => ?_)
    have hP : va_P E.1 vwCl ([[(k1, .inl (E.2 0, 1160, .inl sv))], [(h0, .inr (9, [.int 0, .ref k1, .int sd, .ref k2, .ref k3, .int ln, .int at0, .int pt, .int mi, .int nu, .long (31 * h_173 + (((sv 75)).toInt64))]))]] : List va_W).flatten H := hP
    have hD : va_D A ([[(k1, .inl (E.2 0, 1160, .inl sv))], [(h0, .inr (9, [.int 0, .ref k1, .int sd, .ref k2, .ref k3, .int ln, .int at0, .int pt, .int mi, .int nu, .long (31 * h_173 + (((sv 75)).toInt64))]))]] : List va_W).flatten := hD
    obtain ⟨h_185, eh_185⟩ : ∃ h9 : Int64, h9 = m_mix h_173 (sv 75) := ⟨_, rfl⟩
    have hP : va_P E.1 vwCl ([[(k1, .inl (E.2 0, 1160, .inl sv))], [(h0, .inr (9, [.int 0, .ref k1, .int sd, .ref k2, .ref k3, .int ln, .int at0, .int pt, .int mi, .int nu, .long h_185]))]] : List va_W).flatten H := by rw [eh_185]; exact hP
    have hD : va_D A ([[(k1, .inl (E.2 0, 1160, .inl sv))], [(h0, .inr (9, [.int 0, .ref k1, .int sd, .ref k2, .ref k3, .int ln, .int at0, .int pt, .int mi, .int nu, .long h_185]))]] : List va_W).flatten := by rw [eh_185]; exact hD
    refine W.eq (g2 := F0 Mi 188 ls []) rfl ?_
    refine lv_iconst (v := 0) hx hb dX10_digest_188 (by decide) ?_
    refine lv_istore_n (lv' := [(1, .int 0), (0, .ref h0)]) hx hb dX10_digest_189 rfl hl (by decide) rfl (fun ls hl => ?_)
    exact LOOP_190 (c0 + 1) 0 0 _ (by omega) (by omega) rfl (by rw [eh_185, eh_173, eh_156, eh_144, eh_134, eh_122, eh_110, eh_98, eh_86, eh_74, eh_63, eh_52, eh_41, eh_31, eh_20]; rfl) _ _ (zf_sub hP [1, 0] rfl) (zf_subD hD [1, 0] (by decide) rfl) hS ls (lv_sub hl [1, 0] rfl)
  · refine lv_lconst (v := 1) hx hb dX10_digest_168 (by decide) ?_
    refine lv_goto (tgt := 173) hx hb dX10_digest_169 (by decide) ?_
    refine z_topl (y := (m_alM sv 0 m).toInt64) (by rw [(m_alM01 sv 0 m).resolve_left c_165]; rfl) ?_
    have hPc : va_P E.1 vwCl ([[(h0, .inr (9, [.int 0, .ref k1, .int sd, .ref k2, .ref k3, .int ln, .int at0, .int pt, .int mi, .int nu, .long h_156]))]] : List va_W).flatten H := zf_sub hP [1] rfl
    have hDc : va_D A ([[(h0, .inr (9, [.int 0, .ref k1, .int sd, .ref k2, .ref k3, .int ln, .int at0, .int pt, .int mi, .int nu, .long h_156]))]] : List va_W).flatten := zf_subD hD [1] (by decide) rfl
    refine z_mut (Sc := [[(h0, .inr (9, [.int 0, .ref k1, .int sd, .ref k2, .ref k3, .int ln, .int at0, .int pt, .int mi, .int nu, .long h_156]))]]) (Sr := [[(k1, .inl (E.2 0, 1160, .inl sv))]]) (W1 := [[(h0, .inr (9, [.int 0, .ref k1, .int sd, .ref k2, .ref k3, .int ln, .int at0, .int pt, .int mi, .int nu, .long (31 * h_156 + ((m_alM sv 0 m).toInt64))]))]]) (va_runV (As := [.long (m_alM sv 0 m).toInt64]) (rest := []) ⟨hx, hb, hml, hown, hts⟩ (c_X10_mix l E h0 k1 k2 k3 0 sd ln at0 pt mi nu h_156 ((m_alM sv 0 m).toInt64) H.size) (cwV 1 hts gX10_digest_X10_mix rfl rfl rfl (by decide +kernel) ⟨Nat.le_of_ble_eq_true rfl, Nat.le_of_ble_eq_true rfl⟩) ⟨zP.blind, va_recv hK.1 hPc (ci := 9) (q0 := 0) rfl rfl, z_pre hK hPc hDc⟩ rfl rfl hl.1 rfl (lv_room (Nat.le_of_ble_eq_true rfl)) dX10_digest_173 ⟨Nat.le_of_ble_eq_true rfl, Nat.le_of_ble_eq_true rfl⟩) hP hD hS hA [1] [0] rfl rfl (by decide) (by decide) (fun H locs hP hD hS => ?_)
    have hP : va_P E.1 vwCl ([[(k1, .inl (E.2 0, 1160, .inl sv))], [(h0, .inr (9, [.int 0, .ref k1, .int sd, .ref k2, .ref k3, .int ln, .int at0, .int pt, .int mi, .int nu, .long (31 * h_156 + ((m_alM sv 0 m).toInt64))]))]] : List va_W).flatten H := hP
    have hD : va_D A ([[(k1, .inl (E.2 0, 1160, .inl sv))], [(h0, .inr (9, [.int 0, .ref k1, .int sd, .ref k2, .ref k3, .int ln, .int at0, .int pt, .int mi, .int nu, .long (31 * h_156 + ((m_alM sv 0 m).toInt64))]))]] : List va_W).flatten := hD
    obtain ⟨h_173, eh_173⟩ : ∃ h9 : Int64, h9 = m_mix h_156 (m_alM sv 0 m) := ⟨_, rfl⟩
    have hP : va_P E.1 vwCl ([[(k1, .inl (E.2 0, 1160, .inl sv))], [(h0, .inr (9, [.int 0, .ref k1, .int sd, .ref k2, .ref k3, .int ln, .int at0, .int pt, .int mi, .int nu, .long h_173]))]] : List va_W).flatten H := by rw [eh_173]; exact hP
    have hD : va_D A ([[(k1, .inl (E.2 0, 1160, .inl sv))], [(h0, .inr (9, [.int 0, .ref k1, .int sd, .ref k2, .ref k3, .int ln, .int at0, .int pt, .int mi, .int nu, .long h_173]))]] : List va_W).flatten := by rw [eh_173]; exact hD
    refine W.eq (g2 := F0 Mi 176 ls []) rfl ?_
    refine lv_aload_n hx hb dX10_digest_176 rfl (lv_at hl 0 rfl) ?_
    refine lv_aload_n hx hb dX10_digest_177 rfl (lv_at hl 0 rfl) ?_
    refine va_get (D := E.1) (ci := 9) (v := .ref k1) (C := RX10) (T := TX10) (N := 11) hx hb hts hi_X10 hown hK.1 hP 1 rfl rfl 1 (by decide) (hts (.fieldLink RX10 7 "AltimeterWatchModel" "s" "[I") (by decide +kernel)) (fun _ h9 => h9) rfl dX10_digest_178 ?_
    refine lv_bipush (v := 75) hx hb dX10_digest_181 (by decide) ?_
    refine z_iald (k := 75) hx hb hK.1 hP 0 rfl rfl (by decide) (by decide) dX10_digest_183 ?_
    refine lv_i2l hx hb dX10_digest_184 rfl ?_
    have hPc : va_P E.1 vwCl ([[(h0, .inr (9, [.int 0, .ref k1, .int sd, .ref k2, .ref k3, .int ln, .int at0, .int pt, .int mi, .int nu, .long h_173]))]] : List va_W).flatten H := zf_sub hP [1] rfl
    have hDc : va_D A ([[(h0, .inr (9, [.int 0, .ref k1, .int sd, .ref k2, .ref k3, .int ln, .int at0, .int pt, .int mi, .int nu, .long h_173]))]] : List va_W).flatten := zf_subD hD [1] (by decide) rfl
    refine z_mut (Sc := [[(h0, .inr (9, [.int 0, .ref k1, .int sd, .ref k2, .ref k3, .int ln, .int at0, .int pt, .int mi, .int nu, .long h_173]))]]) (Sr := [[(k1, .inl (E.2 0, 1160, .inl sv))]]) (W1 := [[(h0, .inr (9, [.int 0, .ref k1, .int sd, .ref k2, .ref k3, .int ln, .int at0, .int pt, .int mi, .int nu, .long (31 * h_173 + (((sv 75)).toInt64))]))]]) (va_runV (As := [.long ((sv 75)).toInt64]) (rest := []) ⟨hx, hb, hml, hown, hts⟩ (c_X10_mix l E h0 k1 k2 k3 0 sd ln at0 pt mi nu h_173 (((sv 75)).toInt64) H.size) (cwV 1 hts gX10_digest_X10_mix rfl rfl rfl (by decide +kernel) ⟨Nat.le_of_ble_eq_true rfl, Nat.le_of_ble_eq_true rfl⟩) ⟨zP.blind, va_recv hK.1 hPc (ci := 9) (q0 := 0) rfl rfl, z_pre hK hPc hDc⟩ rfl rfl hl.1 rfl (lv_room (Nat.le_of_ble_eq_true rfl)) dX10_digest_185 ⟨Nat.le_of_ble_eq_true rfl, Nat.le_of_ble_eq_true rfl⟩) hP hD hS hA [1] [0] rfl rfl (by decide) (by decide) (fun H locs hP hD hS => ?_)
    have hP : va_P E.1 vwCl ([[(k1, .inl (E.2 0, 1160, .inl sv))], [(h0, .inr (9, [.int 0, .ref k1, .int sd, .ref k2, .ref k3, .int ln, .int at0, .int pt, .int mi, .int nu, .long (31 * h_173 + (((sv 75)).toInt64))]))]] : List va_W).flatten H := hP
    have hD : va_D A ([[(k1, .inl (E.2 0, 1160, .inl sv))], [(h0, .inr (9, [.int 0, .ref k1, .int sd, .ref k2, .ref k3, .int ln, .int at0, .int pt, .int mi, .int nu, .long (31 * h_173 + (((sv 75)).toInt64))]))]] : List va_W).flatten := hD
    obtain ⟨h_185, eh_185⟩ : ∃ h9 : Int64, h9 = m_mix h_173 (sv 75) := ⟨_, rfl⟩
    have hP : va_P E.1 vwCl ([[(k1, .inl (E.2 0, 1160, .inl sv))], [(h0, .inr (9, [.int 0, .ref k1, .int sd, .ref k2, .ref k3, .int ln, .int at0, .int pt, .int mi, .int nu, .long h_185]))]] : List va_W).flatten H := by rw [eh_185]; exact hP
    have hD : va_D A ([[(k1, .inl (E.2 0, 1160, .inl sv))], [(h0, .inr (9, [.int 0, .ref k1, .int sd, .ref k2, .ref k3, .int ln, .int at0, .int pt, .int mi, .int nu, .long h_185]))]] : List va_W).flatten := by rw [eh_185]; exact hD
    refine W.eq (g2 := F0 Mi 188 ls []) rfl ?_
    refine lv_iconst (v := 0) hx hb dX10_digest_188 (by decide) ?_
    refine lv_istore_n (lv' := [(1, .int 0), (0, .ref h0)]) hx hb dX10_digest_189 rfl hl (by decide) rfl (fun ls hl => ?_)
    exact LOOP_190 (c0 + 1) 0 0 _ (by omega) (by omega) rfl (by rw [eh_185, eh_173, eh_156, eh_144, eh_134, eh_122, eh_110, eh_98, eh_86, eh_74, eh_63, eh_52, eh_41, eh_31, eh_20]; rfl) _ _ (zf_sub hP [1, 0] rfl) (zf_subD hD [1, 0] (by decide) rfl) hS ls (lv_sub hl [1, 0] rfl)
