theorem m_rnC_lt {tx : Nat → Int32} {n i : Nat} {y fr nu least most : Int32} (h : ¬ m_rnC (m_sgM tx n i) y fr nu least most = 0) : i < n := by
  rcases Nat.lt_or_ge i n with q | q
  · exact q
  · exfalso
    apply h
    rw [m_rnC, if_pos]
    rw [m_sgM, if_neg (by omega)]
    decide
theorem m_rnL_le {tx : Nat → Int32} {n : Nat} {fr least most : Int32} : ∀ (f i : Nat) (nu : Int32), i ≤ n → (m_rnL tx n fr least most f i nu).1 ≤ n ∧ i ≤ (m_rnL tx n fr least most f i nu).1
  | 0, i, nu, h => ⟨h, Nat.le_refl _⟩
  | f + 1, i, nu, h => by
    rw [m_rnL]
    split
    · exact ⟨h, Nat.le_refl _⟩
    · rename_i c
      have := m_rnL_le (tx := tx) (n := n) (fr := fr) (least := least) (most := most) f (i + 1) (10 * nu + m_sgM tx n i - 48) (m_rnC_lt c)
      exact ⟨this.1, by omega⟩
theorem m_rnR_le {tx : Nat → Int32} {n i : Nat} {least most : Int32} (h : i ≤ n) : (m_rnR tx n i least most).1 ≤ n ∧ i ≤ (m_rnR tx n i least most).1 := m_rnL_le _ _ _ h
theorem m_sg_lt {tx : Nat → Int32} {n i : Nat} {x : Int32} (h : m_sgM tx n i = x) (hx : ¬ x = 0) : i < n := by
  rcases Nat.lt_or_ge i n with q | q
  · exact q
  · rw [m_sgM, if_neg (by omega)] at h
    exact absurd h.symm hx
theorem m_tk_n {tx : Nat → Int32} {n i : Nat} {x : Int32} (h : m_tkM tx n i x = 0) : ¬ m_sgM tx n i = x := by
  intro q
  rw [m_tkM, if_pos q] at h
  exact absurd h (by decide)
theorem m_tk_y {tx : Nat → Int32} {n i : Nat} {x : Int32} (h : ¬ m_tkM tx n i x = 0) : m_sgM tx n i = x := by
  rcases Classical.em (m_sgM tx n i = x) with q | q
  · exact q
  · rw [m_tkM, if_neg q] at h
    exact absurd rfl h
theorem m_tkN_n {tx : Nat → Int32} {n i : Nat} {x : Int32} (h : ¬ m_sgM tx n i = x) : m_tkN tx n i x = i := if_neg h
theorem m_tkN_y {tx : Nat → Int32} {n i : Nat} {x : Int32} (h : m_sgM tx n i = x) : m_tkN tx n i x = i + 1 := if_pos h
/-- a part read from the place i on: the answer, the place, part, minutes, number behind it -/
def m_rp (tx : Nat → Int32) (n i : Nat) (mi nu : Int32) : Int32 × Nat × Int32 × Int32 × Int32 :=
  if m_sgM tx n i = 115 then (1, i + 1, m_sgM tx n i, mi, nu)
  else if m_sgM tx n i = 109 then (1, i + 1, m_sgM tx n i, mi, nu)
  else if m_sgM tx n i = 99 then (m_rnV tx n (i + 1) 0 50000, (m_rnR tx n (i + 1) 0 50000).1, m_sgM tx n i, mi, (m_rnR tx n (i + 1) 0 50000).2)
  else if m_rnV tx n i 1 120 = 0 then (0, (m_rnR tx n i 1 120).1, 0, mi, (m_rnR tx n i 1 120).2)
  else if m_sgM tx n (m_rnR tx n i 1 120).1 = 62 then (m_rnV tx n ((m_rnR tx n i 1 120).1 + 1) 5000 11000, (m_rnR tx n ((m_rnR tx n i 1 120).1 + 1) 5000 11000).1, 0, (m_rnR tx n i 1 120).2, (m_rnR tx n ((m_rnR tx n i 1 120).1 + 1) 5000 11000).2)
  else (0, (m_rnR tx n i 1 120).1, 0, mi, (m_rnR tx n i 1 120).2)
theorem m_rp01 (tx : Nat → Int32) (n i : Nat) (mi nu : Int32) : (m_rp tx n i mi nu).1 = 0 ∨ (m_rp tx n i mi nu).1 = 1 := by
  unfold m_rp
  split
  · exact Or.inr rfl
  · split
    · exact Or.inr rfl
    · split
      · exact m_rnV01 _ _ _ _ _
      · split
        · exact Or.inl rfl
        · split
          · exact m_rnV01 _ _ _ _ _
          · exact Or.inl rfl
theorem m_rnV_p {tx : Nat → Int32} {n i : Nat} {least most : Int32} (h : ¬ m_rnV tx n i least most = 0) : i < (m_rnR tx n i least most).1 ∧ least ≤ (m_rnR tx n i least most).2 ∧ (m_rnR tx n i least most).2 ≤ most := by
  unfold m_rnV at h
  split at h
  · exact ⟨by assumption, m_in_p h⟩
  · exact absurd rfl h
theorem m_rp_le {tx : Nat → Int32} {n i : Nat} {mi nu : Int32} (hi : i ≤ n) : (m_rp tx n i mi nu).2.1 ≤ n ∧ i ≤ (m_rp tx n i mi nu).2.1 := by
  unfold m_rp
  split
  · rename_i c; have := m_sg_lt c (by decide); exact ⟨this, Nat.le_succ _⟩
  · split
    · rename_i c; have := m_sg_lt c (by decide); exact ⟨this, Nat.le_succ _⟩
    · split
      · rename_i c
        have := m_sg_lt c (by decide)
        have := m_rnR_le (tx := tx) (n := n) (i := i + 1) (least := 0) (most := 50000) this
        exact ⟨this.1, Nat.le_trans (Nat.le_succ _) this.2⟩
      · have h1 := m_rnR_le (tx := tx) (n := n) (i := i) (least := 1) (most := 120) hi
        split
        · exact h1
        · split
          · rename_i c
            have := m_sg_lt c (by decide)
            have := m_rnR_le (tx := tx) (n := n) (i := (m_rnR tx n i 1 120).1 + 1) (least := 5000) (most := 11000) this
            exact ⟨this.1, Nat.le_trans h1.2 (Nat.le_trans (Nat.le_succ _) this.2)⟩
          · exact h1
theorem m_rp_lt {tx : Nat → Int32} {n i : Nat} {mi nu : Int32} (hi : i ≤ n) (h : ¬ (m_rp tx n i mi nu).1 = 0) : i < (m_rp tx n i mi nu).2.1 := by
  unfold m_rp at h ⊢
  split
  · exact Nat.lt_succ_self _
  · rename_i n1
    rw [if_neg n1] at h
    split
    · exact Nat.lt_succ_self _
    · rename_i n2
      rw [if_neg n2] at h
      split
      · rename_i c
        rw [if_pos c] at h
        exact Nat.lt_of_le_of_lt (Nat.le_succ _) (m_rnV_p h).1
      · rename_i n3
        rw [if_neg n3] at h
        split
        · rename_i c
          rw [if_pos c] at h
          exact absurd rfl h
        · rename_i c
          split
          · have := (m_rnV_p c).1
            rename_i d
            rw [if_neg c, if_pos d] at h
            have h2 := (m_rnV_p h).1
            show i < (m_rnR tx n ((m_rnR tx n i 1 120).1 + 1) 5000 11000).1
            omega
          · rename_i d
            rw [if_neg c, if_neg d] at h
            exact absurd rfl h
theorem k_i120 {x : Int32} (h1 : 1 ≤ x) (h2 : x ≤ 120) : x = nI (m_n x) ∧ m_n x ≤ 120 := k_nn ⟨h1, h2⟩
/-- of a trip the minutes -/
theorem m_rp_mi {tx : Nat → Int32} {n i : Nat} {mi nu : Int32} (h : ¬ (m_rp tx n i mi nu).1 = 0) (h1 : ¬ (m_rp tx n i mi nu).2.2.1 = 99) (h2 : ¬ (m_rp tx n i mi nu).2.2.1 = 109) (h3 : ¬ (m_rp tx n i mi nu).2.2.1 = 115) : (m_rp tx n i mi nu).2.2.2.1 = nI (m_n (m_rp tx n i mi nu).2.2.2.1) ∧ m_n (m_rp tx n i mi nu).2.2.2.1 ≤ 120 := by
  have key : ∀ r : Int32 × Nat × Int32 × Int32 × Int32, m_rp tx n i mi nu = r → ¬ r.1 = 0 → ¬ r.2.2.1 = 99 → ¬ r.2.2.1 = 109 → ¬ r.2.2.1 = 115 → r.2.2.2.1 = nI (m_n r.2.2.2.1) ∧ m_n r.2.2.2.1 ≤ 120 := by
    intro r er a1 a2 a3 a4
    unfold m_rp at er
    split at er
    · rename_i c; subst er; exact absurd c a4
    · split at er
      · rename_i c; subst er; exact absurd c a3
      · split at er
        · rename_i c; subst er; exact absurd c a2
        · split at er
          · subst er; exact absurd rfl a1
          · rename_i c
            split at er
            · subst er
              have := m_rnV_p c
              exact k_i120 this.2.1 this.2.2
            · subst er; exact absurd rfl a1
  exact key _ rfl h h1 h2 h3

set_option maxHeartbeats 4000000 in
set_option maxRecDepth 100000 in
theorem c_X10_readsPart (l : Launch) (E : zE) (h0 k1 k2 k3 : Nat) (th sd ln at0 pt mi nu : Int32) (ha : Int64) (tx : Nat → Int32) (n i : Nat) (hln : ln = nI n) (hn : n ≤ 60) (hat : at0 = nI i) (hi : i ≤ n) : zM l yX10_readsPart wsX10_readsPart ({ frames := 2, cells := 0, slots := 0, locals := 48 }) E [.ref h0] ([[(h0, .inr (9, [.int th, .ref k1, .int sd, .ref k2, .ref k3, .int ln, .int at0, .int pt, .int mi, .int nu, .long ha]))], [(k3, .inl (E.2 0, 60, .inl tx))]] : List va_W).flatten (some (.int (m_rp tx n i mi nu).1)) ([[(h0, .inr (9, [.int th, .ref k1, .int sd, .ref k2, .ref k3, .int ln, .int (nI (m_rp tx n i mi nu).2.1), .int ((m_rp tx n i mi nu).2.2.1), .int ((m_rp tx n i mi nu).2.2.2.1), .int ((m_rp tx n i mi nu).2.2.2.2), .long ha]))], [(k3, .inl (E.2 0, 60, .inl tx))]] : List va_W).flatten 0 0 := by
  refine z_start (cc := cX10_readsPart) (maxL := 1) (ret := (some .boolean)) (by decide) rfl (Nat.le_of_ble_eq_true rfl) ?_
  intro Pg En s Mi below meth Cd A hx hb hr hts hown hlocks hin hml hA H hH hP hK hD hS ls hl
  have hl : lv_has ls 1 [(0, .ref h0)] := hl
  have hi_X10 : ∀ w ∈ wsX100, w ∈ wsX10_readsPart := by decide +kernel
  refine lv_aload_n hx hb dX10_readsPart_0 rfl (lv_at hl 0 rfl) ?_
  refine lv_aload_n hx hb dX10_readsPart_1 rfl (lv_at hl 0 rfl) ?_
  have hPc : va_P E.1 vwCl ([[(h0, .inr (9, [.int th, .ref k1, .int sd, .ref k2, .ref k3, .int ln, .int at0, .int pt, .int mi, .int nu, .long ha]))], [(k3, .inl (E.2 0, 60, .inl tx))]] : List va_W).flatten H := zf_sub hP [0, 1] rfl
  refine z_rdv (va_runV (As := []) (rest := [.ref h0]) ⟨hx, hb, hml, hown, hts⟩ (c_X10_sign l E h0 k1 k2 k3 th sd ln at0 pt mi nu ha tx n i hln hn hat hi) (cwV 0 hts gX10_readsPart_X10_sign rfl rfl rfl (by decide +kernel) ⟨Nat.le_of_ble_eq_true rfl, Nat.le_of_ble_eq_true rfl⟩) ⟨zPr.blind, va_recv hK.1 hPc (ci := 9) (q0 := 0) rfl rfl, z_prer hK hPc⟩ rfl rfl hl.1 rfl (lv_room (Nat.le_of_ble_eq_true rfl)) dX10_readsPart_2 ⟨Nat.le_of_ble_eq_true rfl, Nat.le_of_ble_eq_true rfl⟩) ?_
  refine W.eq (g2 := F0 Mi 5 ls [.int (m_sgM tx n i), .ref h0]) rfl ?_
  refine va_put (D := E.1) (ci := 9) (v := .int (m_sgM tx n i)) (ty := .int) (C := RX10) (T := TX10) (N := 11) hx hb hts hi_X10 tyX10 tyX10_ok nmX10 hown hK.1 hP hD hS 0 rfl rfl 7 (by decide) (hts (.fieldLink RX10 127 "AltimeterWatchModel" "part" "I") (by decide +kernel)) (fun _ h9 => h9) rfl (by decide +kernel) rfl rfl (Nat.le_of_ble_eq_true rfl) dX10_readsPart_5 (fun H locs hP hD hS => ?_)
  have hP : va_P E.1 vwCl ([[(h0, .inr (9, [.int th, .ref k1, .int sd, .ref k2, .ref k3, .int ln, .int at0, .int (m_sgM tx n i), .int mi, .int nu, .long ha]))], [(k3, .inl (E.2 0, 60, .inl tx))]] : List va_W).flatten H := hP
  have hD : va_D A ([[(h0, .inr (9, [.int th, .ref k1, .int sd, .ref k2, .ref k3, .int ln, .int at0, .int (m_sgM tx n i), .int mi, .int nu, .long ha]))], [(k3, .inl (E.2 0, 60, .inl tx))]] : List va_W).flatten := hD
  refine lv_aload_n hx hb dX10_readsPart_8 rfl (lv_at hl 0 rfl) ?_
  refine lv_bipush (v := 115) hx hb dX10_readsPart_9 (by decide) ?_
  have hPc : va_P E.1 vwCl ([[(h0, .inr (9, [.int th, .ref k1, .int sd, .ref k2, .ref k3, .int ln, .int at0, .int (m_sgM tx n i), .int mi, .int nu, .long ha]))], [(k3, .inl (E.2 0, 60, .inl tx))]] : List va_W).flatten H := zf_sub hP [0, 1] rfl
  have hDc : va_D A ([[(h0, .inr (9, [.int th, .ref k1, .int sd, .ref k2, .ref k3, .int ln, .int at0, .int (m_sgM tx n i), .int mi, .int nu, .long ha]))], [(k3, .inl (E.2 0, 60, .inl tx))]] : List va_W).flatten := zf_subD hD [0, 1] (by decide) rfl
  refine z_mut (Sc := [[(h0, .inr (9, [.int th, .ref k1, .int sd, .ref k2, .ref k3, .int ln, .int at0, .int (m_sgM tx n i), .int mi, .int nu, .long ha]))], [(k3, .inl (E.2 0, 60, .inl tx))]]) (Sr := []) (W1 := [[(h0, .inr (9, [.int th, .ref k1, .int sd, .ref k2, .ref k3, .int ln, .int (nI (m_tkN tx n i 115)), .int (m_sgM tx n i), .int mi, .int nu, .long ha]))], [(k3, .inl (E.2 0, 60, .inl tx))]]) (va_runV (As := [.int 115]) (rest := []) ⟨hx, hb, hml, hown, hts⟩ (c_X10_takes l E h0 k1 k2 k3 th sd ln at0 (m_sgM tx n i) mi nu ha tx n i hln hn hat hi 115 H.size) (cwV 1 hts gX10_readsPart_X10_takes rfl rfl rfl (by decide +kernel) ⟨Nat.le_of_ble_eq_true rfl, Nat.le_of_ble_eq_true rfl⟩) ⟨zP.blind, va_recv hK.1 hPc (ci := 9) (q0 := 0) rfl rfl, z_pre hK hPc hDc⟩ rfl rfl hl.1 rfl (lv_room (Nat.le_of_ble_eq_true rfl)) dX10_readsPart_11 ⟨Nat.le_of_ble_eq_true rfl, Nat.le_of_ble_eq_true rfl⟩) hP hD hS hA [0, 1] [] rfl rfl (by decide) (by decide) (fun H locs hP hD hS => ?_)
  have hP : va_P E.1 vwCl ([[(h0, .inr (9, [.int th, .ref k1, .int sd, .ref k2, .ref k3, .int ln, .int (nI (m_tkN tx n i 115)), .int (m_sgM tx n i), .int mi, .int nu, .long ha]))], [(k3, .inl (E.2 0, 60, .inl tx))]] : List va_W).flatten H := hP
  have hD : va_D A ([[(h0, .inr (9, [.int th, .ref k1, .int sd, .ref k2, .ref k3, .int ln, .int (nI (m_tkN tx n i 115)), .int (m_sgM tx n i), .int mi, .int nu, .long ha]))], [(k3, .inl (E.2 0, 60, .inl tx))]] : List va_W).flatten := hD
  refine W.eq (g2 := F0 Mi 14 ls [.int (m_tkM tx n i 115)]) rfl ?_
  refine lv_if_ne (tgt := 26) hx hb dX10_readsPart_14 (by decide) (fun c_14 => ?_) (fun c_14 => ?_)
  · have hi1 := m_sg_lt (m_tk_y c_14) (by decide)
    have ep := m_tkN_y (m_tk_y c_14)
    rw [ep] at hP hD
    have hP : va_P E.1 vwCl ([[(h0, .inr (9, [.int th, .ref k1, .int sd, .ref k2, .ref k3, .int ln, .int (nI (i + 1)), .int (m_sgM tx n i), .int mi, .int nu, .long ha]))], [(k3, .inl (E.2 0, 60, .inl tx))]] : List va_W).flatten H := hP
    have hD : va_D A ([[(h0, .inr (9, [.int th, .ref k1, .int sd, .ref k2, .ref k3, .int ln, .int (nI (i + 1)), .int (m_sgM tx n i), .int mi, .int nu, .long ha]))], [(k3, .inl (E.2 0, 60, .inl tx))]] : List va_W).flatten := hD
    refine lv_iconst (v := 1) hx hb dX10_readsPart_26 (by decide) ?_
    refine z_topi (y := (m_rp tx n i mi nu).1) (by rw [m_rp, if_pos (m_tk_y c_14)]) ?_
    have hP : va_P E.1 vwCl ([[(h0, .inr (9, [.int th, .ref k1, .int sd, .ref k2, .ref k3, .int ln, .int (nI (i + 1)), .int (m_sgM tx n i), .int mi, .int nu, .long ha]))], [(k3, .inl (E.2 0, 60, .inl tx))]] : List va_W).flatten H := zf_sub hP [0, 1] rfl
    have hD : va_D A ([[(h0, .inr (9, [.int th, .ref k1, .int sd, .ref k2, .ref k3, .int ln, .int (nI (i + 1)), .int (m_sgM tx n i), .int mi, .int nu, .long ha]))], [(k3, .inl (E.2 0, 60, .inl tx))]] : List va_W).flatten := zf_subD hD [0, 1] (by decide) rfl
    exact W.zret (v := (m_rp tx n i mi nu).1) hx hb hr (z_bool (m_rp01 _ _ _ _ _)) (z_end hP hD hS (by rw [m_rp, if_pos (m_tk_y c_14)])) hS.2.2 dX10_readsPart_27 hlocks
  · have ep := m_tkN_n (m_tk_n c_14)
    rw [ep] at hP hD
    have hP : va_P E.1 vwCl ([[(h0, .inr (9, [.int th, .ref k1, .int sd, .ref k2, .ref k3, .int ln, .int (nI i), .int (m_sgM tx n i), .int mi, .int nu, .long ha]))], [(k3, .inl (E.2 0, 60, .inl tx))]] : List va_W).flatten H := hP
    have hD : va_D A ([[(h0, .inr (9, [.int th, .ref k1, .int sd, .ref k2, .ref k3, .int ln, .int (nI i), .int (m_sgM tx n i), .int mi, .int nu, .long ha]))], [(k3, .inl (E.2 0, 60, .inl tx))]] : List va_W).flatten := hD
    refine lv_aload_n hx hb dX10_readsPart_17 rfl (lv_at hl 0 rfl) ?_
    refine lv_bipush (v := 109) hx hb dX10_readsPart_18 (by decide) ?_
    have hPc : va_P E.1 vwCl ([[(h0, .inr (9, [.int th, .ref k1, .int sd, .ref k2, .ref k3, .int ln, .int (nI i), .int (m_sgM tx n i), .int mi, .int nu, .long ha]))], [(k3, .inl (E.2 0, 60, .inl tx))]] : List va_W).flatten H := zf_sub hP [0, 1] rfl
    have hDc : va_D A ([[(h0, .inr (9, [.int th, .ref k1, .int sd, .ref k2, .ref k3, .int ln, .int (nI i), .int (m_sgM tx n i), .int mi, .int nu, .long ha]))], [(k3, .inl (E.2 0, 60, .inl tx))]] : List va_W).flatten := zf_subD hD [0, 1] (by decide) rfl
    refine z_mut (Sc := [[(h0, .inr (9, [.int th, .ref k1, .int sd, .ref k2, .ref k3, .int ln, .int (nI i), .int (m_sgM tx n i), .int mi, .int nu, .long ha]))], [(k3, .inl (E.2 0, 60, .inl tx))]]) (Sr := []) (W1 := [[(h0, .inr (9, [.int th, .ref k1, .int sd, .ref k2, .ref k3, .int ln, .int (nI (m_tkN tx n i 109)), .int (m_sgM tx n i), .int mi, .int nu, .long ha]))], [(k3, .inl (E.2 0, 60, .inl tx))]]) (va_runV (As := [.int 109]) (rest := []) ⟨hx, hb, hml, hown, hts⟩ (c_X10_takes l E h0 k1 k2 k3 th sd ln (nI i) (m_sgM tx n i) mi nu ha tx n i hln hn rfl hi 109 H.size) (cwV 1 hts gX10_readsPart_X10_takes rfl rfl rfl (by decide +kernel) ⟨Nat.le_of_ble_eq_true rfl, Nat.le_of_ble_eq_true rfl⟩) ⟨zP.blind, va_recv hK.1 hPc (ci := 9) (q0 := 0) rfl rfl, z_pre hK hPc hDc⟩ rfl rfl hl.1 rfl (lv_room (Nat.le_of_ble_eq_true rfl)) dX10_readsPart_20 ⟨Nat.le_of_ble_eq_true rfl, Nat.le_of_ble_eq_true rfl⟩) hP hD hS hA [0, 1] [] rfl rfl (by decide) (by decide) (fun H locs hP hD hS => ?_)
    have hP : va_P E.1 vwCl ([[(h0, .inr (9, [.int th, .ref k1, .int sd, .ref k2, .ref k3, .int ln, .int (nI (m_tkN tx n i 109)), .int (m_sgM tx n i), .int mi, .int nu, .long ha]))], [(k3, .inl (E.2 0, 60, .inl tx))]] : List va_W).flatten H := hP
    have hD : va_D A ([[(h0, .inr (9, [.int th, .ref k1, .int sd, .ref k2, .ref k3, .int ln, .int (nI (m_tkN tx n i 109)), .int (m_sgM tx n i), .int mi, .int nu, .long ha]))], [(k3, .inl (E.2 0, 60, .inl tx))]] : List va_W).flatten := hD
    refine W.eq (g2 := F0 Mi 23 ls [.int (m_tkM tx n i 109)]) rfl ?_
    refine lv_if_eq (tgt := 28) hx hb dX10_readsPart_23 (by decide) (fun c_23 => ?_) (fun c_23 => ?_)
    · have ep := m_tkN_n (m_tk_n c_23)
      rw [ep] at hP hD
      have hP : va_P E.1 vwCl ([[(h0, .inr (9, [.int th, .ref k1, .int sd, .ref k2, .ref k3, .int ln, .int (nI i), .int (m_sgM tx n i), .int mi, .int nu, .long ha]))], [(k3, .inl (E.2 0, 60, .inl tx))]] : List va_W).flatten H := hP
      have hD : va_D A ([[(h0, .inr (9, [.int th, .ref k1, .int sd, .ref k2, .ref k3, .int ln, .int (nI i), .int (m_sgM tx n i), .int mi, .int nu, .long ha]))], [(k3, .inl (E.2 0, 60, .inl tx))]] : List va_W).flatten := hD
      refine lv_aload_n hx hb dX10_readsPart_28 rfl (lv_at hl 0 rfl) ?_
      refine lv_bipush (v := 99) hx hb dX10_readsPart_29 (by decide) ?_
      have hPc : va_P E.1 vwCl ([[(h0, .inr (9, [.int th, .ref k1, .int sd, .ref k2, .ref k3, .int ln, .int (nI i), .int (m_sgM tx n i), .int mi, .int nu, .long ha]))], [(k3, .inl (E.2 0, 60, .inl tx))]] : List va_W).flatten H := zf_sub hP [0, 1] rfl
      have hDc : va_D A ([[(h0, .inr (9, [.int th, .ref k1, .int sd, .ref k2, .ref k3, .int ln, .int (nI i), .int (m_sgM tx n i), .int mi, .int nu, .long ha]))], [(k3, .inl (E.2 0, 60, .inl tx))]] : List va_W).flatten := zf_subD hD [0, 1] (by decide) rfl
      refine z_mut (Sc := [[(h0, .inr (9, [.int th, .ref k1, .int sd, .ref k2, .ref k3, .int ln, .int (nI i), .int (m_sgM tx n i), .int mi, .int nu, .long ha]))], [(k3, .inl (E.2 0, 60, .inl tx))]]) (Sr := []) (W1 := [[(h0, .inr (9, [.int th, .ref k1, .int sd, .ref k2, .ref k3, .int ln, .int (nI (m_tkN tx n i 99)), .int (m_sgM tx n i), .int mi, .int nu, .long ha]))], [(k3, .inl (E.2 0, 60, .inl tx))]]) (va_runV (As := [.int 99]) (rest := []) ⟨hx, hb, hml, hown, hts⟩ (c_X10_takes l E h0 k1 k2 k3 th sd ln (nI i) (m_sgM tx n i) mi nu ha tx n i hln hn rfl hi 99 H.size) (cwV 1 hts gX10_readsPart_X10_takes rfl rfl rfl (by decide +kernel) ⟨Nat.le_of_ble_eq_true rfl, Nat.le_of_ble_eq_true rfl⟩) ⟨zP.blind, va_recv hK.1 hPc (ci := 9) (q0 := 0) rfl rfl, z_pre hK hPc hDc⟩ rfl rfl hl.1 rfl (lv_room (Nat.le_of_ble_eq_true rfl)) dX10_readsPart_31 ⟨Nat.le_of_ble_eq_true rfl, Nat.le_of_ble_eq_true rfl⟩) hP hD hS hA [0, 1] [] rfl rfl (by decide) (by decide) (fun H locs hP hD hS => ?_)
      have hP : va_P E.1 vwCl ([[(h0, .inr (9, [.int th, .ref k1, .int sd, .ref k2, .ref k3, .int ln, .int (nI (m_tkN tx n i 99)), .int (m_sgM tx n i), .int mi, .int nu, .long ha]))], [(k3, .inl (E.2 0, 60, .inl tx))]] : List va_W).flatten H := hP
      have hD : va_D A ([[(h0, .inr (9, [.int th, .ref k1, .int sd, .ref k2, .ref k3, .int ln, .int (nI (m_tkN tx n i 99)), .int (m_sgM tx n i), .int mi, .int nu, .long ha]))], [(k3, .inl (E.2 0, 60, .inl tx))]] : List va_W).flatten := hD
      refine W.eq (g2 := F0 Mi 34 ls [.int (m_tkM tx n i 99)]) rfl ?_
      refine lv_if_eq (tgt := 45) hx hb dX10_readsPart_34 (by decide) (fun c_34 => ?_) (fun c_34 => ?_)
      · have ep := m_tkN_n (m_tk_n c_34)
        rw [ep] at hP hD
        have hP : va_P E.1 vwCl ([[(h0, .inr (9, [.int th, .ref k1, .int sd, .ref k2, .ref k3, .int ln, .int (nI i), .int (m_sgM tx n i), .int mi, .int nu, .long ha]))], [(k3, .inl (E.2 0, 60, .inl tx))]] : List va_W).flatten H := hP
        have hD : va_D A ([[(h0, .inr (9, [.int th, .ref k1, .int sd, .ref k2, .ref k3, .int ln, .int (nI i), .int (m_sgM tx n i), .int mi, .int nu, .long ha]))], [(k3, .inl (E.2 0, 60, .inl tx))]] : List va_W).flatten := hD
        refine lv_aload_n hx hb dX10_readsPart_45 rfl (lv_at hl 0 rfl) ?_
        refine lv_iconst (v := 0) hx hb dX10_readsPart_46 (by decide) ?_
        refine va_put (D := E.1) (ci := 9) (v := .int 0) (ty := .int) (C := RX10) (T := TX10) (N := 11) hx hb hts hi_X10 tyX10 tyX10_ok nmX10 hown hK.1 hP hD hS 0 rfl rfl 7 (by decide) (hts (.fieldLink RX10 127 "AltimeterWatchModel" "part" "I") (by decide +kernel)) (fun _ h9 => h9) rfl (by decide +kernel) rfl rfl (Nat.le_of_ble_eq_true rfl) dX10_readsPart_47 (fun H locs hP hD hS => ?_)
        have hP : va_P E.1 vwCl ([[(h0, .inr (9, [.int th, .ref k1, .int sd, .ref k2, .ref k3, .int ln, .int (nI i), .int 0, .int mi, .int nu, .long ha]))], [(k3, .inl (E.2 0, 60, .inl tx))]] : List va_W).flatten H := hP
        have hD : va_D A ([[(h0, .inr (9, [.int th, .ref k1, .int sd, .ref k2, .ref k3, .int ln, .int (nI i), .int 0, .int mi, .int nu, .long ha]))], [(k3, .inl (E.2 0, 60, .inl tx))]] : List va_W).flatten := hD
        refine lv_aload_n hx hb dX10_readsPart_50 rfl (lv_at hl 0 rfl) ?_
        refine lv_iconst (v := 1) hx hb dX10_readsPart_51 (by decide) ?_
        refine lv_bipush (v := 120) hx hb dX10_readsPart_52 (by decide) ?_
        have hPc : va_P E.1 vwCl ([[(h0, .inr (9, [.int th, .ref k1, .int sd, .ref k2, .ref k3, .int ln, .int (nI i), .int 0, .int mi, .int nu, .long ha]))], [(k3, .inl (E.2 0, 60, .inl tx))]] : List va_W).flatten H := zf_sub hP [0, 1] rfl
        have hDc : va_D A ([[(h0, .inr (9, [.int th, .ref k1, .int sd, .ref k2, .ref k3, .int ln, .int (nI i), .int 0, .int mi, .int nu, .long ha]))], [(k3, .inl (E.2 0, 60, .inl tx))]] : List va_W).flatten := zf_subD hD [0, 1] (by decide) rfl
        refine z_mut (Sc := [[(h0, .inr (9, [.int th, .ref k1, .int sd, .ref k2, .ref k3, .int ln, .int (nI i), .int 0, .int mi, .int nu, .long ha]))], [(k3, .inl (E.2 0, 60, .inl tx))]]) (Sr := []) (W1 := [[(h0, .inr (9, [.int th, .ref k1, .int sd, .ref k2, .ref k3, .int ln, .int (nI (m_rnR tx n i 1 120).1), .int 0, .int mi, .int ((m_rnR tx n i 1 120).2), .long ha]))], [(k3, .inl (E.2 0, 60, .inl tx))]]) (va_runV (As := [.int 1, .int 120]) (rest := []) ⟨hx, hb, hml, hown, hts⟩ (c_X10_readsNumber l E h0 k1 k2 k3 th sd ln (nI i) 0 mi nu ha tx n i hln hn rfl hi 1 120 120 rfl (by decide) H.size) (cwV 2 hts gX10_readsPart_X10_readsNumber rfl rfl rfl (by decide +kernel) ⟨Nat.le_of_ble_eq_true rfl, Nat.le_of_ble_eq_true rfl⟩) ⟨zP.blind, va_recv hK.1 hPc (ci := 9) (q0 := 0) rfl rfl, z_pre hK hPc hDc⟩ rfl rfl hl.1 rfl (lv_room (Nat.le_of_ble_eq_true rfl)) dX10_readsPart_54 ⟨Nat.le_of_ble_eq_true rfl, Nat.le_of_ble_eq_true rfl⟩) hP hD hS hA [0, 1] [] rfl rfl (by decide) (by decide) (fun H locs hP hD hS => ?_)
        have hP : va_P E.1 vwCl ([[(h0, .inr (9, [.int th, .ref k1, .int sd, .ref k2, .ref k3, .int ln, .int (nI (m_rnR tx n i 1 120).1), .int 0, .int mi, .int ((m_rnR tx n i 1 120).2), .long ha]))], [(k3, .inl (E.2 0, 60, .inl tx))]] : List va_W).flatten H := hP
        have hD : va_D A ([[(h0, .inr (9, [.int th, .ref k1, .int sd, .ref k2, .ref k3, .int ln, .int (nI (m_rnR tx n i 1 120).1), .int 0, .int mi, .int ((m_rnR tx n i 1 120).2), .long ha]))], [(k3, .inl (E.2 0, 60, .inl tx))]] : List va_W).flatten := hD
        refine W.eq (g2 := F0 Mi 57 ls [.int (m_rnV tx n i 1 120)]) rfl ?_
        refine lv_if_eq (tgt := 69) hx hb dX10_readsPart_57 (by decide) (fun c_57 => ?_) (fun c_57 => ?_)
        · refine lv_iconst (v := 0) hx hb dX10_readsPart_69 (by decide) ?_
          refine z_topi (y := (m_rp tx n i mi nu).1) (by rw [m_rp, if_neg (m_tk_n c_14), if_neg (m_tk_n c_23), if_neg (m_tk_n c_34), if_pos c_57]) ?_
          have hP : va_P E.1 vwCl ([[(h0, .inr (9, [.int th, .ref k1, .int sd, .ref k2, .ref k3, .int ln, .int (nI (m_rnR tx n i 1 120).1), .int 0, .int mi, .int ((m_rnR tx n i 1 120).2), .long ha]))], [(k3, .inl (E.2 0, 60, .inl tx))]] : List va_W).flatten H := zf_sub hP [0, 1] rfl
          have hD : va_D A ([[(h0, .inr (9, [.int th, .ref k1, .int sd, .ref k2, .ref k3, .int ln, .int (nI (m_rnR tx n i 1 120).1), .int 0, .int mi, .int ((m_rnR tx n i 1 120).2), .long ha]))], [(k3, .inl (E.2 0, 60, .inl tx))]] : List va_W).flatten := zf_subD hD [0, 1] (by decide) rfl
          exact W.zret (v := (m_rp tx n i mi nu).1) hx hb hr (z_bool (m_rp01 _ _ _ _ _)) (z_end hP hD hS (by rw [m_rp, if_neg (m_tk_n c_14), if_neg (m_tk_n c_23), if_neg (m_tk_n c_34), if_pos c_57])) hS.2.2 dX10_readsPart_70 hlocks
        · have hr1 : (m_rnR tx n i 1 120).1 ≤ n := (m_rnR_le hi).1
          refine lv_aload_n hx hb dX10_readsPart_60 rfl (lv_at hl 0 rfl) ?_
          refine lv_bipush (v := 62) hx hb dX10_readsPart_61 (by decide) ?_
          have hPc : va_P E.1 vwCl ([[(h0, .inr (9, [.int th, .ref k1, .int sd, .ref k2, .ref k3, .int ln, .int (nI (m_rnR tx n i 1 120).1), .int 0, .int mi, .int ((m_rnR tx n i 1 120).2), .long ha]))], [(k3, .inl (E.2 0, 60, .inl tx))]] : List va_W).flatten H := zf_sub hP [0, 1] rfl
          have hDc : va_D A ([[(h0, .inr (9, [.int th, .ref k1, .int sd, .ref k2, .ref k3, .int ln, .int (nI (m_rnR tx n i 1 120).1), .int 0, .int mi, .int ((m_rnR tx n i 1 120).2), .long ha]))], [(k3, .inl (E.2 0, 60, .inl tx))]] : List va_W).flatten := zf_subD hD [0, 1] (by decide) rfl
          refine z_mut (Sc := [[(h0, .inr (9, [.int th, .ref k1, .int sd, .ref k2, .ref k3, .int ln, .int (nI (m_rnR tx n i 1 120).1), .int 0, .int mi, .int ((m_rnR tx n i 1 120).2), .long ha]))], [(k3, .inl (E.2 0, 60, .inl tx))]]) (Sr := []) (W1 := [[(h0, .inr (9, [.int th, .ref k1, .int sd, .ref k2, .ref k3, .int ln, .int (nI (m_tkN tx n (m_rnR tx n i 1 120).1 62)), .int 0, .int mi, .int ((m_rnR tx n i 1 120).2), .long ha]))], [(k3, .inl (E.2 0, 60, .inl tx))]]) (va_runV (As := [.int 62]) (rest := []) ⟨hx, hb, hml, hown, hts⟩ (c_X10_takes l E h0 k1 k2 k3 th sd ln (nI (m_rnR tx n i 1 120).1) 0 mi ((m_rnR tx n i 1 120).2) ha tx n (m_rnR tx n i 1 120).1 hln hn rfl hr1 62 H.size) (cwV 1 hts gX10_readsPart_X10_takes rfl rfl rfl (by decide +kernel) ⟨Nat.le_of_ble_eq_true rfl, Nat.le_of_ble_eq_true rfl⟩) ⟨zP.blind, va_recv hK.1 hPc (ci := 9) (q0 := 0) rfl rfl, z_pre hK hPc hDc⟩ rfl rfl hl.1 rfl (lv_room (Nat.le_of_ble_eq_true rfl)) dX10_readsPart_63 ⟨Nat.le_of_ble_eq_true rfl, Nat.le_of_ble_eq_true rfl⟩) hP hD hS hA [0, 1] [] rfl rfl (by decide) (by decide) (fun H locs hP hD hS => ?_)
          have hP : va_P E.1 vwCl ([[(h0, .inr (9, [.int th, .ref k1, .int sd, .ref k2, .ref k3, .int ln, .int (nI (m_tkN tx n (m_rnR tx n i 1 120).1 62)), .int 0, .int mi, .int ((m_rnR tx n i 1 120).2), .long ha]))], [(k3, .inl (E.2 0, 60, .inl tx))]] : List va_W).flatten H := hP
          have hD : va_D A ([[(h0, .inr (9, [.int th, .ref k1, .int sd, .ref k2, .ref k3, .int ln, .int (nI (m_tkN tx n (m_rnR tx n i 1 120).1 62)), .int 0, .int mi, .int ((m_rnR tx n i 1 120).2), .long ha]))], [(k3, .inl (E.2 0, 60, .inl tx))]] : List va_W).flatten := hD
          refine W.eq (g2 := F0 Mi 66 ls [.int (m_tkM tx n (m_rnR tx n i 1 120).1 62)]) rfl ?_
          refine lv_if_ne (tgt := 71) hx hb dX10_readsPart_66 (by decide) (fun c_66 => ?_) (fun c_66 => ?_)
          · have hr2 : (m_rnR tx n i 1 120).1 + 1 ≤ n := m_sg_lt (m_tk_y c_66) (by decide)
            have ep := m_tkN_y (m_tk_y c_66)
            rw [ep] at hP hD
            have hP : va_P E.1 vwCl ([[(h0, .inr (9, [.int th, .ref k1, .int sd, .ref k2, .ref k3, .int ln, .int (nI ((m_rnR tx n i 1 120).1 + 1)), .int 0, .int mi, .int ((m_rnR tx n i 1 120).2), .long ha]))], [(k3, .inl (E.2 0, 60, .inl tx))]] : List va_W).flatten H := hP
            have hD : va_D A ([[(h0, .inr (9, [.int th, .ref k1, .int sd, .ref k2, .ref k3, .int ln, .int (nI ((m_rnR tx n i 1 120).1 + 1)), .int 0, .int mi, .int ((m_rnR tx n i 1 120).2), .long ha]))], [(k3, .inl (E.2 0, 60, .inl tx))]] : List va_W).flatten := hD
            refine lv_aload_n hx hb dX10_readsPart_71 rfl (lv_at hl 0 rfl) ?_
            refine lv_aload_n hx hb dX10_readsPart_72 rfl (lv_at hl 0 rfl) ?_
            refine va_get (D := E.1) (ci := 9) (v := .int ((m_rnR tx n i 1 120).2)) (C := RX10) (T := TX10) (N := 11) hx hb hts hi_X10 hown hK.1 hP 0 rfl rfl 9 (by decide) (hts (.fieldLink RX10 121 "AltimeterWatchModel" "number" "I") (by decide +kernel)) (fun _ h9 => h9) rfl dX10_readsPart_73 ?_
            refine va_put (D := E.1) (ci := 9) (v := .int ((m_rnR tx n i 1 120).2)) (ty := .int) (C := RX10) (T := TX10) (N := 11) hx hb hts hi_X10 tyX10 tyX10_ok nmX10 hown hK.1 hP hD hS 0 rfl rfl 8 (by decide) (hts (.fieldLink RX10 136 "AltimeterWatchModel" "minutes" "I") (by decide +kernel)) (fun _ h9 => h9) rfl (by decide +kernel) rfl rfl (Nat.le_of_ble_eq_true rfl) dX10_readsPart_76 (fun H locs hP hD hS => ?_)
            have hP : va_P E.1 vwCl ([[(h0, .inr (9, [.int th, .ref k1, .int sd, .ref k2, .ref k3, .int ln, .int (nI ((m_rnR tx n i 1 120).1 + 1)), .int 0, .int ((m_rnR tx n i 1 120).2), .int ((m_rnR tx n i 1 120).2), .long ha]))], [(k3, .inl (E.2 0, 60, .inl tx))]] : List va_W).flatten H := hP
            have hD : va_D A ([[(h0, .inr (9, [.int th, .ref k1, .int sd, .ref k2, .ref k3, .int ln, .int (nI ((m_rnR tx n i 1 120).1 + 1)), .int 0, .int ((m_rnR tx n i 1 120).2), .int ((m_rnR tx n i 1 120).2), .long ha]))], [(k3, .inl (E.2 0, 60, .inl tx))]] : List va_W).flatten := hD
            refine lv_aload_n hx hb dX10_readsPart_79 rfl (lv_at hl 0 rfl) ?_
            refine lv_sipush (v := 5000) hx hb dX10_readsPart_80 (by decide) ?_
            refine lv_sipush (v := 11000) hx hb dX10_readsPart_83 (by decide) ?_
            have hPc : va_P E.1 vwCl ([[(h0, .inr (9, [.int th, .ref k1, .int sd, .ref k2, .ref k3, .int ln, .int (nI ((m_rnR tx n i 1 120).1 + 1)), .int 0, .int ((m_rnR tx n i 1 120).2), .int ((m_rnR tx n i 1 120).2), .long ha]))], [(k3, .inl (E.2 0, 60, .inl tx))]] : List va_W).flatten H := zf_sub hP [0, 1] rfl
            have hDc : va_D A ([[(h0, .inr (9, [.int th, .ref k1, .int sd, .ref k2, .ref k3, .int ln, .int (nI ((m_rnR tx n i 1 120).1 + 1)), .int 0, .int ((m_rnR tx n i 1 120).2), .int ((m_rnR tx n i 1 120).2), .long ha]))], [(k3, .inl (E.2 0, 60, .inl tx))]] : List va_W).flatten := zf_subD hD [0, 1] (by decide) rfl
            refine z_mut (Sc := [[(h0, .inr (9, [.int th, .ref k1, .int sd, .ref k2, .ref k3, .int ln, .int (nI ((m_rnR tx n i 1 120).1 + 1)), .int 0, .int ((m_rnR tx n i 1 120).2), .int ((m_rnR tx n i 1 120).2), .long ha]))], [(k3, .inl (E.2 0, 60, .inl tx))]]) (Sr := []) (W1 := [[(h0, .inr (9, [.int th, .ref k1, .int sd, .ref k2, .ref k3, .int ln, .int (nI (m_rnR tx n ((m_rnR tx n i 1 120).1 + 1) 5000 11000).1), .int 0, .int ((m_rnR tx n i 1 120).2), .int ((m_rnR tx n ((m_rnR tx n i 1 120).1 + 1) 5000 11000).2), .long ha]))], [(k3, .inl (E.2 0, 60, .inl tx))]]) (va_runV (As := [.int 5000, .int 11000]) (rest := []) ⟨hx, hb, hml, hown, hts⟩ (c_X10_readsNumber l E h0 k1 k2 k3 th sd ln (nI ((m_rnR tx n i 1 120).1 + 1)) 0 ((m_rnR tx n i 1 120).2) ((m_rnR tx n i 1 120).2) ha tx n ((m_rnR tx n i 1 120).1 + 1) hln hn rfl hr2 5000 11000 11000 rfl (by decide) H.size) (cwV 2 hts gX10_readsPart_X10_readsNumber rfl rfl rfl (by decide +kernel) ⟨Nat.le_of_ble_eq_true rfl, Nat.le_of_ble_eq_true rfl⟩) ⟨zP.blind, va_recv hK.1 hPc (ci := 9) (q0 := 0) rfl rfl, z_pre hK hPc hDc⟩ rfl rfl hl.1 rfl (lv_room (Nat.le_of_ble_eq_true rfl)) dX10_readsPart_86 ⟨Nat.le_of_ble_eq_true rfl, Nat.le_of_ble_eq_true rfl⟩) hP hD hS hA [0, 1] [] rfl rfl (by decide) (by decide) (fun H locs hP hD hS => ?_)
            have hP : va_P E.1 vwCl ([[(h0, .inr (9, [.int th, .ref k1, .int sd, .ref k2, .ref k3, .int ln, .int (nI (m_rnR tx n ((m_rnR tx n i 1 120).1 + 1) 5000 11000).1), .int 0, .int ((m_rnR tx n i 1 120).2), .int ((m_rnR tx n ((m_rnR tx n i 1 120).1 + 1) 5000 11000).2), .long ha]))], [(k3, .inl (E.2 0, 60, .inl tx))]] : List va_W).flatten H := hP
            have hD : va_D A ([[(h0, .inr (9, [.int th, .ref k1, .int sd, .ref k2, .ref k3, .int ln, .int (nI (m_rnR tx n ((m_rnR tx n i 1 120).1 + 1) 5000 11000).1), .int 0, .int ((m_rnR tx n i 1 120).2), .int ((m_rnR tx n ((m_rnR tx n i 1 120).1 + 1) 5000 11000).2), .long ha]))], [(k3, .inl (E.2 0, 60, .inl tx))]] : List va_W).flatten := hD
            refine W.eq (g2 := F0 Mi 89 ls [.int (m_rnV tx n ((m_rnR tx n i 1 120).1 + 1) 5000 11000)]) rfl ?_
            refine z_topi (y := (m_rp tx n i mi nu).1) (by rw [m_rp, if_neg (m_tk_n c_14), if_neg (m_tk_n c_23), if_neg (m_tk_n c_34), if_neg c_57, if_pos (m_tk_y c_66)]) ?_
            have hP : va_P E.1 vwCl ([[(h0, .inr (9, [.int th, .ref k1, .int sd, .ref k2, .ref k3, .int ln, .int (nI (m_rnR tx n ((m_rnR tx n i 1 120).1 + 1) 5000 11000).1), .int 0, .int ((m_rnR tx n i 1 120).2), .int ((m_rnR tx n ((m_rnR tx n i 1 120).1 + 1) 5000 11000).2), .long ha]))], [(k3, .inl (E.2 0, 60, .inl tx))]] : List va_W).flatten H := zf_sub hP [0, 1] rfl
            have hD : va_D A ([[(h0, .inr (9, [.int th, .ref k1, .int sd, .ref k2, .ref k3, .int ln, .int (nI (m_rnR tx n ((m_rnR tx n i 1 120).1 + 1) 5000 11000).1), .int 0, .int ((m_rnR tx n i 1 120).2), .int ((m_rnR tx n ((m_rnR tx n i 1 120).1 + 1) 5000 11000).2), .long ha]))], [(k3, .inl (E.2 0, 60, .inl tx))]] : List va_W).flatten := zf_subD hD [0, 1] (by decide) rfl
            exact W.zret (v := (m_rp tx n i mi nu).1) hx hb hr (z_bool (m_rp01 _ _ _ _ _)) (z_end hP hD hS (by rw [m_rp, if_neg (m_tk_n c_14), if_neg (m_tk_n c_23), if_neg (m_tk_n c_34), if_neg c_57, if_pos (m_tk_y c_66)])) hS.2.2 dX10_readsPart_89 hlocks
          · have ep := m_tkN_n (m_tk_n c_66)
            rw [ep] at hP hD
            have hP : va_P E.1 vwCl ([[(h0, .inr (9, [.int th, .ref k1, .int sd, .ref k2, .ref k3, .int ln, .int (nI (m_rnR tx n i 1 120).1), .int 0, .int mi, .int ((m_rnR tx n i 1 120).2), .long ha]))], [(k3, .inl (E.2 0, 60, .inl tx))]] : List va_W).flatten H := hP
            have hD : va_D A ([[(h0, .inr (9, [.int th, .ref k1, .int sd, .ref k2, .ref k3, .int ln, .int (nI (m_rnR tx n i 1 120).1), .int 0, .int mi, .int ((m_rnR tx n i 1 120).2), .long ha]))], [(k3, .inl (E.2 0, 60, .inl tx))]] : List va_W).flatten := hD
            refine lv_iconst (v := 0) hx hb dX10_readsPart_69 (by decide) ?_
            refine z_topi (y := (m_rp tx n i mi nu).1) (by rw [m_rp, if_neg (m_tk_n c_14), if_neg (m_tk_n c_23), if_neg (m_tk_n c_34), if_neg c_57, if_neg (m_tk_n c_66)]) ?_
            have hP : va_P E.1 vwCl ([[(h0, .inr (9, [.int th, .ref k1, .int sd, .ref k2, .ref k3, .int ln, .int (nI (m_rnR tx n i 1 120).1), .int 0, .int mi, .int ((m_rnR tx n i 1 120).2), .long ha]))], [(k3, .inl (E.2 0, 60, .inl tx))]] : List va_W).flatten H := zf_sub hP [0, 1] rfl
            have hD : va_D A ([[(h0, .inr (9, [.int th, .ref k1, .int sd, .ref k2, .ref k3, .int ln, .int (nI (m_rnR tx n i 1 120).1), .int 0, .int mi, .int ((m_rnR tx n i 1 120).2), .long ha]))], [(k3, .inl (E.2 0, 60, .inl tx))]] : List va_W).flatten := zf_subD hD [0, 1] (by decide) rfl
            exact W.zret (v := (m_rp tx n i mi nu).1) hx hb hr (z_bool (m_rp01 _ _ _ _ _)) (z_end hP hD hS (by rw [m_rp, if_neg (m_tk_n c_14), if_neg (m_tk_n c_23), if_neg (m_tk_n c_34), if_neg c_57, if_neg (m_tk_n c_66)])) hS.2.2 dX10_readsPart_70 hlocks
      · have hi1 : i + 1 ≤ n := m_sg_lt (m_tk_y c_34) (by decide)
        have ep := m_tkN_y (m_tk_y c_34)
        rw [ep] at hP hD
        have hP : va_P E.1 vwCl ([[(h0, .inr (9, [.int th, .ref k1, .int sd, .ref k2, .ref k3, .int ln, .int (nI (i + 1)), .int (m_sgM tx n i), .int mi, .int nu, .long ha]))], [(k3, .inl (E.2 0, 60, .inl tx))]] : List va_W).flatten H := hP
        have hD : va_D A ([[(h0, .inr (9, [.int th, .ref k1, .int sd, .ref k2, .ref k3, .int ln, .int (nI (i + 1)), .int (m_sgM tx n i), .int mi, .int nu, .long ha]))], [(k3, .inl (E.2 0, 60, .inl tx))]] : List va_W).flatten := hD
        refine lv_aload_n hx hb dX10_readsPart_37 rfl (lv_at hl 0 rfl) ?_
        refine lv_iconst (v := 0) hx hb dX10_readsPart_38 (by decide) ?_
        refine lv_ldc hx hb hown (hts (.constant RX10 93 (50000)) (by decide +kernel)) dX10_readsPart_39 ?_
        have hPc : va_P E.1 vwCl ([[(h0, .inr (9, [.int th, .ref k1, .int sd, .ref k2, .ref k3, .int ln, .int (nI (i + 1)), .int (m_sgM tx n i), .int mi, .int nu, .long ha]))], [(k3, .inl (E.2 0, 60, .inl tx))]] : List va_W).flatten H := zf_sub hP [0, 1] rfl
        have hDc : va_D A ([[(h0, .inr (9, [.int th, .ref k1, .int sd, .ref k2, .ref k3, .int ln, .int (nI (i + 1)), .int (m_sgM tx n i), .int mi, .int nu, .long ha]))], [(k3, .inl (E.2 0, 60, .inl tx))]] : List va_W).flatten := zf_subD hD [0, 1] (by decide) rfl
        refine z_mut (Sc := [[(h0, .inr (9, [.int th, .ref k1, .int sd, .ref k2, .ref k3, .int ln, .int (nI (i + 1)), .int (m_sgM tx n i), .int mi, .int nu, .long ha]))], [(k3, .inl (E.2 0, 60, .inl tx))]]) (Sr := []) (W1 := [[(h0, .inr (9, [.int th, .ref k1, .int sd, .ref k2, .ref k3, .int ln, .int (nI (m_rnR tx n (i + 1) 0 (50000)).1), .int (m_sgM tx n i), .int mi, .int ((m_rnR tx n (i + 1) 0 (50000)).2), .long ha]))], [(k3, .inl (E.2 0, 60, .inl tx))]]) (va_runV (As := [.int 0, .int (50000)]) (rest := []) ⟨hx, hb, hml, hown, hts⟩ (c_X10_readsNumber l E h0 k1 k2 k3 th sd ln (nI (i + 1)) (m_sgM tx n i) mi nu ha tx n (i + 1) hln hn rfl hi1 0 (50000) (50000) rfl (by decide) H.size) (cwV 2 hts gX10_readsPart_X10_readsNumber rfl rfl rfl (by decide +kernel) ⟨Nat.le_of_ble_eq_true rfl, Nat.le_of_ble_eq_true rfl⟩) ⟨zP.blind, va_recv hK.1 hPc (ci := 9) (q0 := 0) rfl rfl, z_pre hK hPc hDc⟩ rfl rfl hl.1 rfl (lv_room (Nat.le_of_ble_eq_true rfl)) dX10_readsPart_41 ⟨Nat.le_of_ble_eq_true rfl, Nat.le_of_ble_eq_true rfl⟩) hP hD hS hA [0, 1] [] rfl rfl (by decide) (by decide) (fun H locs hP hD hS => ?_)
        have hP : va_P E.1 vwCl ([[(h0, .inr (9, [.int th, .ref k1, .int sd, .ref k2, .ref k3, .int ln, .int (nI (m_rnR tx n (i + 1) 0 (50000)).1), .int (m_sgM tx n i), .int mi, .int ((m_rnR tx n (i + 1) 0 (50000)).2), .long ha]))], [(k3, .inl (E.2 0, 60, .inl tx))]] : List va_W).flatten H := hP
        have hD : va_D A ([[(h0, .inr (9, [.int th, .ref k1, .int sd, .ref k2, .ref k3, .int ln, .int (nI (m_rnR tx n (i + 1) 0 (50000)).1), .int (m_sgM tx n i), .int mi, .int ((m_rnR tx n (i + 1) 0 (50000)).2), .long ha]))], [(k3, .inl (E.2 0, 60, .inl tx))]] : List va_W).flatten := hD
        refine W.eq (g2 := F0 Mi 44 ls [.int (m_rnV tx n (i + 1) 0 (50000))]) rfl ?_
        refine z_topi (y := (m_rp tx n i mi nu).1) (by rw [m_rp, if_neg (m_tk_n c_14), if_neg (m_tk_n c_23), if_pos (m_tk_y c_34)]) ?_
        have hP : va_P E.1 vwCl ([[(h0, .inr (9, [.int th, .ref k1, .int sd, .ref k2, .ref k3, .int ln, .int (nI (m_rnR tx n (i + 1) 0 (50000)).1), .int (m_sgM tx n i), .int mi, .int ((m_rnR tx n (i + 1) 0 (50000)).2), .long ha]))], [(k3, .inl (E.2 0, 60, .inl tx))]] : List va_W).flatten H := zf_sub hP [0, 1] rfl
        have hD : va_D A ([[(h0, .inr (9, [.int th, .ref k1, .int sd, .ref k2, .ref k3, .int ln, .int (nI (m_rnR tx n (i + 1) 0 (50000)).1), .int (m_sgM tx n i), .int mi, .int ((m_rnR tx n (i + 1) 0 (50000)).2), .long ha]))], [(k3, .inl (E.2 0, 60, .inl tx))]] : List va_W).flatten := zf_subD hD [0, 1] (by decide) rfl
        exact W.zret (v := (m_rp tx n i mi nu).1) hx hb hr (z_bool (m_rp01 _ _ _ _ _)) (z_end hP hD hS (by rw [m_rp, if_neg (m_tk_n c_14), if_neg (m_tk_n c_23), if_pos (m_tk_y c_34)])) hS.2.2 dX10_readsPart_44 hlocks
    · have hi1 := m_sg_lt (m_tk_y c_23) (by decide)
      have ep := m_tkN_y (m_tk_y c_23)
      rw [ep] at hP hD
      have hP : va_P E.1 vwCl ([[(h0, .inr (9, [.int th, .ref k1, .int sd, .ref k2, .ref k3, .int ln, .int (nI (i + 1)), .int (m_sgM tx n i), .int mi, .int nu, .long ha]))], [(k3, .inl (E.2 0, 60, .inl tx))]] : List va_W).flatten H := hP
      have hD : va_D A ([[(h0, .inr (9, [.int th, .ref k1, .int sd, .ref k2, .ref k3, .int ln, .int (nI (i + 1)), .int (m_sgM tx n i), .int mi, .int nu, .long ha]))], [(k3, .inl (E.2 0, 60, .inl tx))]] : List va_W).flatten := hD
      refine lv_iconst (v := 1) hx hb dX10_readsPart_26 (by decide) ?_
      refine z_topi (y := (m_rp tx n i mi nu).1) (by rw [m_rp, if_neg (m_tk_n c_14), if_pos (m_tk_y c_23)]) ?_
      have hP : va_P E.1 vwCl ([[(h0, .inr (9, [.int th, .ref k1, .int sd, .ref k2, .ref k3, .int ln, .int (nI (i + 1)), .int (m_sgM tx n i), .int mi, .int nu, .long ha]))], [(k3, .inl (E.2 0, 60, .inl tx))]] : List va_W).flatten H := zf_sub hP [0, 1] rfl
      have hD : va_D A ([[(h0, .inr (9, [.int th, .ref k1, .int sd, .ref k2, .ref k3, .int ln, .int (nI (i + 1)), .int (m_sgM tx n i), .int mi, .int nu, .long ha]))], [(k3, .inl (E.2 0, 60, .inl tx))]] : List va_W).flatten := zf_subD hD [0, 1] (by decide) rfl
      exact W.zret (v := (m_rp tx n i mi nu).1) hx hb hr (z_bool (m_rp01 _ _ _ _ _)) (z_end hP hD hS (by rw [m_rp, if_neg (m_tk_n c_14), if_pos (m_tk_y c_23)])) hS.2.2 dX10_readsPart_27 hlocks

/-- the text read to its first error, from the place i on: the answer, the place, part, minutes, number -/
def m_itt (tx : Nat → Int32) (n : Nat) : Nat → Nat → Int32 → Int32 → Int32 → Int32 × Nat × Int32 × Int32 × Int32
  | 0, i, pt, mi, nu => (0, i, pt, mi, nu)
  | f + 1, i, _, mi, nu => if (m_rp tx n i mi nu).1 = 0 then m_rp tx n i mi nu else if (m_rp tx n i mi nu).2.1 = n then m_rp tx n i mi nu
    else if m_sgM tx n (m_rp tx n i mi nu).2.1 = 59 then m_itt tx n f ((m_rp tx n i mi nu).2.1 + 1) (m_rp tx n i mi nu).2.2.1 (m_rp tx n i mi nu).2.2.2.1 (m_rp tx n i mi nu).2.2.2.2
    else (0, (m_rp tx n i mi nu).2)
theorem m_itt01 (tx : Nat → Int32) (n : Nat) : ∀ (f i : Nat) (pt mi nu : Int32), (m_itt tx n f i pt mi nu).1 = 0 ∨ (m_itt tx n f i pt mi nu).1 = 1
  | 0, _, _, _, _ => Or.inl rfl
  | f + 1, i, pt, mi, nu => by
    rw [m_itt]
    split
    · exact m_rp01 _ _ _ _ _
    · split
      · exact m_rp01 _ _ _ _ _
      · split
        · exact m_itt01 tx n f _ _ _ _
        · exact Or.inl rfl
theorem m_itt_le (tx : Nat → Int32) (n : Nat) : ∀ (f i : Nat) (pt mi nu : Int32), i ≤ n → (m_itt tx n f i pt mi nu).2.1 ≤ n
  | 0, _, _, _, _, h => h
  | f + 1, i, pt, mi, nu, h => by
    rw [m_itt]
    split
    · exact (m_rp_le h).1
    · split
      · exact (m_rp_le h).1
      · split
        · rename_i c
          exact m_itt_le tx n f _ _ _ _ (m_sg_lt c (by decide))
        · exact (m_rp_le h).1
abbrev m_IT (tx : Nat → Int32) (n : Nat) (pt mi nu : Int32) : Int32 × Nat × Int32 × Int32 × Int32 := m_itt tx n 61 0 pt mi nu

set_option maxHeartbeats 4000000 in
set_option maxRecDepth 100000 in
theorem c_X10_isTripText (l : Launch) (E : zE) (h0 k1 k2 k3 : Nat) (th sd ln at0 pt mi nu : Int32) (ha : Int64) (tx : Nat → Int32) (n : Nat) (hln : ln = nI n) (hn : n ≤ 60) : zM l yX10_isTripText wsX10_isTripText ({ frames := 3, cells := 0, slots := 0, locals := 68 }) E [.ref h0] ([[(h0, .inr (9, [.int th, .ref k1, .int sd, .ref k2, .ref k3, .int ln, .int at0, .int pt, .int mi, .int nu, .long ha]))], [(k3, .inl (E.2 0, 60, .inl tx))]] : List va_W).flatten (some (.int (m_IT tx n pt mi nu).1)) ([[(h0, .inr (9, [.int th, .ref k1, .int sd, .ref k2, .ref k3, .int ln, .int (nI (m_IT tx n pt mi nu).2.1), .int ((m_IT tx n pt mi nu).2.2.1), .int ((m_IT tx n pt mi nu).2.2.2.1), .int ((m_IT tx n pt mi nu).2.2.2.2), .long ha]))], [(k3, .inl (E.2 0, 60, .inl tx))]] : List va_W).flatten 0 0 := by
  refine z_start (cc := cX10_isTripText) (maxL := 1) (ret := (some .boolean)) (by decide) rfl (Nat.le_of_ble_eq_true rfl) ?_
  intro Pg En s Mi below meth Cd A hx hb hr hts hown hlocks hin hml hA H hH hP hK hD hS ls hl
  have hl : lv_has ls 1 [(0, .ref h0)] := hl
  have hi_X10 : ∀ w ∈ wsX100, w ∈ wsX10_isTripText := by decide +kernel
  have LOOP_5 : ∀ (kz : Nat) (i : Nat) (y pt1 mi1 nu1 : Int32), 60 < i + kz → i ≤ n → y = nI i → m_itt tx n 61 0 pt mi nu = m_itt tx n kz i pt1 mi1 nu1 →  ∀ (H : Heap) (locs : List Loc), va_P E.1 vwCl ([[(h0, .inr (9, [.int th, .ref k1, .int sd, .ref k2, .ref k3, .int ln, .int y, .int pt1, .int mi1, .int nu1, .long ha]))], [(k3, .inl (E.2 0, 60, .inl tx))]] : List va_W).flatten H → va_D A ([[(h0, .inr (9, [.int th, .ref k1, .int sd, .ref k2, .ref k3, .int ln, .int y, .int pt1, .int mi1, .int nu1, .long ha]))], [(k3, .inl (E.2 0, 60, .inl tx))]] : List va_W).flatten → va_S A s.heap H locs → ∀ (ls : Array Slot), lv_has ls 1 [(0, .ref h0)] → W Pg l En ({ frames := 3, cells := 0, slots := 0, locals := 68 } : Room) s Mi ([.ref h0] : List Value).toArray below meth Cd H locs 0 0 (MQ below (zQ (some (.int (m_IT tx n pt mi nu).1)) (zB E ([[(h0, .inr (9, [.int th, .ref k1, .int sd, .ref k2, .ref k3, .int ln, .int (nI (m_IT tx n pt mi nu).2.1), .int ((m_IT tx n pt mi nu).2.2.1), .int ((m_IT tx n pt mi nu).2.2.2.1), .int ((m_IT tx n pt mi nu).2.2.2.2), .long ha]))], [(k3, .inl (E.2 0, 60, .inl tx))]] : List va_W).flatten A) A) ([.ref h0] : List Value).toArray s 0 0 A) (F0 Mi 5 ls []) := by
    intro kz
    induction kz with
    | zero => intro i y pt1 mi1 nu1 h1 hi hy h5; exact absurd h1 (by omega)
    | succ kz ih =>
      intro i y pt1 mi1 nu1 h1 hi hy h5 H locs hP hD hS ls hl
      refine lv_aload_n hx hb dX10_isTripText_5 rfl (lv_at hl 0 rfl) ?_
      have hPc : va_P E.1 vwCl ([[(h0, .inr (9, [.int th, .ref k1, .int sd, .ref k2, .ref k3, .int ln, .int y, .int pt1, .int mi1, .int nu1, .long ha]))], [(k3, .inl (E.2 0, 60, .inl tx))]] : List va_W).flatten H := zf_sub hP [0, 1] rfl
      have hDc : va_D A ([[(h0, .inr (9, [.int th, .ref k1, .int sd, .ref k2, .ref k3, .int ln, .int y, .int pt1, .int mi1, .int nu1, .long ha]))], [(k3, .inl (E.2 0, 60, .inl tx))]] : List va_W).flatten := zf_subD hD [0, 1] (by decide) rfl
      refine z_mut (Sc := [[(h0, .inr (9, [.int th, .ref k1, .int sd, .ref k2, .ref k3, .int ln, .int y, .int pt1, .int mi1, .int nu1, .long ha]))], [(k3, .inl (E.2 0, 60, .inl tx))]]) (Sr := []) (W1 := [[(h0, .inr (9, [.int th, .ref k1, .int sd, .ref k2, .ref k3, .int ln, .int (nI (m_rp tx n i mi1 nu1).2.1), .int ((m_rp tx n i mi1 nu1).2.2.1), .int ((m_rp tx n i mi1 nu1).2.2.2.1), .int ((m_rp tx n i mi1 nu1).2.2.2.2), .long ha]))], [(k3, .inl (E.2 0, 60, .inl tx))]]) (va_runV (As := []) (rest := []) ⟨hx, hb, hml, hown, hts⟩ (c_X10_readsPart l E h0 k1 k2 k3 th sd ln y pt1 mi1 nu1 ha tx n i hln hn hy hi H.size) (cwV 0 hts gX10_isTripText_X10_readsPart rfl rfl rfl (by decide +kernel) ⟨Nat.le_of_ble_eq_true rfl, Nat.le_of_ble_eq_true rfl⟩) ⟨zP.blind, va_recv hK.1 hPc (ci := 9) (q0 := 0) rfl rfl, z_pre hK hPc hDc⟩ rfl rfl hl.1 rfl (lv_room (Nat.le_of_ble_eq_true rfl)) dX10_isTripText_6 ⟨Nat.le_of_ble_eq_true rfl, Nat.le_of_ble_eq_true rfl⟩) hP hD hS hA [0, 1] [] rfl rfl (by decide) (by decide) (fun H locs hP hD hS => ?_)
      have hP : va_P E.1 vwCl ([[(h0, .inr (9, [.int th, .ref k1, .int sd, .ref k2, .ref k3, .int ln, .int (nI (m_rp tx n i mi1 nu1).2.1), .int ((m_rp tx n i mi1 nu1).2.2.1), .int ((m_rp tx n i mi1 nu1).2.2.2.1), .int ((m_rp tx n i mi1 nu1).2.2.2.2), .long ha]))], [(k3, .inl (E.2 0, 60, .inl tx))]] : List va_W).flatten H := hP
      have hD : va_D A ([[(h0, .inr (9, [.int th, .ref k1, .int sd, .ref k2, .ref k3, .int ln, .int (nI (m_rp tx n i mi1 nu1).2.1), .int ((m_rp tx n i mi1 nu1).2.2.1), .int ((m_rp tx n i mi1 nu1).2.2.2.1), .int ((m_rp tx n i mi1 nu1).2.2.2.2), .long ha]))], [(k3, .inl (E.2 0, 60, .inl tx))]] : List va_W).flatten := hD
      refine W.eq (g2 := F0 Mi 9 ls [.int (m_rp tx n i mi1 nu1).1]) rfl ?_
      have hrn : (m_rp tx n i mi1 nu1).2.1 ≤ n := (m_rp_le hi).1
      refine lv_if_eq (tgt := 36) hx hb dX10_isTripText_9 (by decide) (fun c_9 => ?_) (fun c_9 => ?_)
      · refine lv_iconst (v := 0) hx hb dX10_isTripText_36 (by decide) ?_
        have eI : (m_IT tx n pt mi nu) = (m_rp tx n i mi1 nu1) := (by rw [m_IT, h5, m_itt, if_pos c_9])
        refine z_topi (y := (m_IT tx n pt mi nu).1) (by rw [eI]; exact c_9.symm) ?_
        have hP : va_P E.1 vwCl ([[(h0, .inr (9, [.int th, .ref k1, .int sd, .ref k2, .ref k3, .int ln, .int (nI (m_rp tx n i mi1 nu1).2.1), .int ((m_rp tx n i mi1 nu1).2.2.1), .int ((m_rp tx n i mi1 nu1).2.2.2.1), .int ((m_rp tx n i mi1 nu1).2.2.2.2), .long ha]))], [(k3, .inl (E.2 0, 60, .inl tx))]] : List va_W).flatten H := zf_sub hP [0, 1] rfl
        have hD : va_D A ([[(h0, .inr (9, [.int th, .ref k1, .int sd, .ref k2, .ref k3, .int ln, .int (nI (m_rp tx n i mi1 nu1).2.1), .int ((m_rp tx n i mi1 nu1).2.2.1), .int ((m_rp tx n i mi1 nu1).2.2.2.1), .int ((m_rp tx n i mi1 nu1).2.2.2.2), .long ha]))], [(k3, .inl (E.2 0, 60, .inl tx))]] : List va_W).flatten := zf_subD hD [0, 1] (by decide) rfl
        exact W.zret (v := (m_IT tx n pt mi nu).1) hx hb hr (z_bool (m_itt01 _ _ _ _ _ _ _)) (z_end hP hD hS (by rw [eI])) hS.2.2 dX10_isTripText_37 hlocks
      · refine lv_aload_n hx hb dX10_isTripText_12 rfl (lv_at hl 0 rfl) ?_
        refine va_get (D := E.1) (ci := 9) (v := .int (nI (m_rp tx n i mi1 nu1).2.1)) (C := RX10) (T := TX10) (N := 11) hx hb hts hi_X10 hown hK.1 hP 0 rfl rfl 6 (by decide) (hts (.fieldLink RX10 115 "AltimeterWatchModel" "at" "I") (by decide +kernel)) (fun _ h9 => h9) rfl dX10_isTripText_13 ?_
        refine lv_aload_n hx hb dX10_isTripText_16 rfl (lv_at hl 0 rfl) ?_
        refine va_get (D := E.1) (ci := 9) (v := .int ln) (C := RX10) (T := TX10) (N := 11) hx hb hts hi_X10 hown hK.1 hP 0 rfl rfl 5 (by decide) (hts (.fieldLink RX10 112 "AltimeterWatchModel" "length" "I") (by decide +kernel)) (fun _ h9 => h9) rfl dX10_isTripText_17 ?_
        refine lv_icmp_ne (tgt := 25) hx hb dX10_isTripText_20 (by decide) (fun c_20 => ?_) (fun c_20 => ?_)
        · have hne : ¬ (m_rp tx n i mi1 nu1).2.1 = n := fun h9 => c_20 (by rw [hln, h9])
          refine lv_aload_n hx hb dX10_isTripText_25 rfl (lv_at hl 0 rfl) ?_
          refine lv_bipush (v := 59) hx hb dX10_isTripText_26 (by decide) ?_
          have hPc : va_P E.1 vwCl ([[(h0, .inr (9, [.int th, .ref k1, .int sd, .ref k2, .ref k3, .int ln, .int (nI (m_rp tx n i mi1 nu1).2.1), .int ((m_rp tx n i mi1 nu1).2.2.1), .int ((m_rp tx n i mi1 nu1).2.2.2.1), .int ((m_rp tx n i mi1 nu1).2.2.2.2), .long ha]))], [(k3, .inl (E.2 0, 60, .inl tx))]] : List va_W).flatten H := zf_sub hP [0, 1] rfl
          have hDc : va_D A ([[(h0, .inr (9, [.int th, .ref k1, .int sd, .ref k2, .ref k3, .int ln, .int (nI (m_rp tx n i mi1 nu1).2.1), .int ((m_rp tx n i mi1 nu1).2.2.1), .int ((m_rp tx n i mi1 nu1).2.2.2.1), .int ((m_rp tx n i mi1 nu1).2.2.2.2), .long ha]))], [(k3, .inl (E.2 0, 60, .inl tx))]] : List va_W).flatten := zf_subD hD [0, 1] (by decide) rfl
          refine z_mut (Sc := [[(h0, .inr (9, [.int th, .ref k1, .int sd, .ref k2, .ref k3, .int ln, .int (nI (m_rp tx n i mi1 nu1).2.1), .int ((m_rp tx n i mi1 nu1).2.2.1), .int ((m_rp tx n i mi1 nu1).2.2.2.1), .int ((m_rp tx n i mi1 nu1).2.2.2.2), .long ha]))], [(k3, .inl (E.2 0, 60, .inl tx))]]) (Sr := []) (W1 := [[(h0, .inr (9, [.int th, .ref k1, .int sd, .ref k2, .ref k3, .int ln, .int (nI (m_tkN tx n (m_rp tx n i mi1 nu1).2.1 59)), .int ((m_rp tx n i mi1 nu1).2.2.1), .int ((m_rp tx n i mi1 nu1).2.2.2.1), .int ((m_rp tx n i mi1 nu1).2.2.2.2), .long ha]))], [(k3, .inl (E.2 0, 60, .inl tx))]]) (va_runV (As := [.int 59]) (rest := []) ⟨hx, hb, hml, hown, hts⟩ (c_X10_takes l E h0 k1 k2 k3 th sd ln (nI (m_rp tx n i mi1 nu1).2.1) ((m_rp tx n i mi1 nu1).2.2.1) ((m_rp tx n i mi1 nu1).2.2.2.1) ((m_rp tx n i mi1 nu1).2.2.2.2) ha tx n (m_rp tx n i mi1 nu1).2.1 hln hn rfl hrn 59 H.size) (cwV 1 hts gX10_isTripText_X10_takes rfl rfl rfl (by decide +kernel) ⟨Nat.le_of_ble_eq_true rfl, Nat.le_of_ble_eq_true rfl⟩) ⟨zP.blind, va_recv hK.1 hPc (ci := 9) (q0 := 0) rfl rfl, z_pre hK hPc hDc⟩ rfl rfl hl.1 rfl (lv_room (Nat.le_of_ble_eq_true rfl)) dX10_isTripText_28 ⟨Nat.le_of_ble_eq_true rfl, Nat.le_of_ble_eq_true rfl⟩) hP hD hS hA [0, 1] [] rfl rfl (by decide) (by decide) (fun H locs hP hD hS => ?_)
          have hP : va_P E.1 vwCl ([[(h0, .inr (9, [.int th, .ref k1, .int sd, .ref k2, .ref k3, .int ln, .int (nI (m_tkN tx n (m_rp tx n i mi1 nu1).2.1 59)), .int ((m_rp tx n i mi1 nu1).2.2.1), .int ((m_rp tx n i mi1 nu1).2.2.2.1), .int ((m_rp tx n i mi1 nu1).2.2.2.2), .long ha]))], [(k3, .inl (E.2 0, 60, .inl tx))]] : List va_W).flatten H := hP
          have hD : va_D A ([[(h0, .inr (9, [.int th, .ref k1, .int sd, .ref k2, .ref k3, .int ln, .int (nI (m_tkN tx n (m_rp tx n i mi1 nu1).2.1 59)), .int ((m_rp tx n i mi1 nu1).2.2.1), .int ((m_rp tx n i mi1 nu1).2.2.2.1), .int ((m_rp tx n i mi1 nu1).2.2.2.2), .long ha]))], [(k3, .inl (E.2 0, 60, .inl tx))]] : List va_W).flatten := hD
          refine W.eq (g2 := F0 Mi 31 ls [.int (m_tkM tx n (m_rp tx n i mi1 nu1).2.1 59)]) rfl ?_
          refine lv_if_ne (tgt := 5) hx hb dX10_isTripText_31 (by decide) (fun c_31 => ?_) (fun c_31 => ?_)
          · have hlt : (m_rp tx n i mi1 nu1).2.1 < n := m_sg_lt (m_tk_y c_31) (by decide)
            have hgt : i ≤ (m_rp tx n i mi1 nu1).2.1 := (m_rp_le hi).2
            exact ih ((m_rp tx n i mi1 nu1).2.1 + 1) (nI (m_tkN tx n (m_rp tx n i mi1 nu1).2.1 59)) (m_rp tx n i mi1 nu1).2.2.1 (m_rp tx n i mi1 nu1).2.2.2.1 (m_rp tx n i mi1 nu1).2.2.2.2 (by omega) (by omega) (by rw [m_tkN_y (m_tk_y c_31)]) (by rw [h5, m_itt, if_neg c_9, if_neg hne, if_pos (m_tk_y c_31)]) _ _ (zf_sub hP [0, 1] rfl) (zf_subD hD [0, 1] (by decide) rfl) hS ls (lv_sub hl [0] rfl)
          · have ep := m_tkN_n (m_tk_n c_31)
            rw [ep] at hP hD
            have hP : va_P E.1 vwCl ([[(h0, .inr (9, [.int th, .ref k1, .int sd, .ref k2, .ref k3, .int ln, .int (nI (m_rp tx n i mi1 nu1).2.1), .int ((m_rp tx n i mi1 nu1).2.2.1), .int ((m_rp tx n i mi1 nu1).2.2.2.1), .int ((m_rp tx n i mi1 nu1).2.2.2.2), .long ha]))], [(k3, .inl (E.2 0, 60, .inl tx))]] : List va_W).flatten H := hP
            have hD : va_D A ([[(h0, .inr (9, [.int th, .ref k1, .int sd, .ref k2, .ref k3, .int ln, .int (nI (m_rp tx n i mi1 nu1).2.1), .int ((m_rp tx n i mi1 nu1).2.2.1), .int ((m_rp tx n i mi1 nu1).2.2.2.1), .int ((m_rp tx n i mi1 nu1).2.2.2.2), .long ha]))], [(k3, .inl (E.2 0, 60, .inl tx))]] : List va_W).flatten := hD
            refine lv_iconst (v := 0) hx hb dX10_isTripText_34 (by decide) ?_
            have eI : (m_IT tx n pt mi nu) = (0, (m_rp tx n i mi1 nu1).2) := (by rw [m_IT, h5, m_itt, if_neg c_9, if_neg hne, if_neg (m_tk_n c_31)])
            refine z_topi (y := (m_IT tx n pt mi nu).1) (by rw [eI]) ?_
            have hP : va_P E.1 vwCl ([[(h0, .inr (9, [.int th, .ref k1, .int sd, .ref k2, .ref k3, .int ln, .int (nI (m_rp tx n i mi1 nu1).2.1), .int ((m_rp tx n i mi1 nu1).2.2.1), .int ((m_rp tx n i mi1 nu1).2.2.2.1), .int ((m_rp tx n i mi1 nu1).2.2.2.2), .long ha]))], [(k3, .inl (E.2 0, 60, .inl tx))]] : List va_W).flatten H := zf_sub hP [0, 1] rfl
            have hD : va_D A ([[(h0, .inr (9, [.int th, .ref k1, .int sd, .ref k2, .ref k3, .int ln, .int (nI (m_rp tx n i mi1 nu1).2.1), .int ((m_rp tx n i mi1 nu1).2.2.1), .int ((m_rp tx n i mi1 nu1).2.2.2.1), .int ((m_rp tx n i mi1 nu1).2.2.2.2), .long ha]))], [(k3, .inl (E.2 0, 60, .inl tx))]] : List va_W).flatten := zf_subD hD [0, 1] (by decide) rfl
            exact W.zret (v := (m_IT tx n pt mi nu).1) hx hb hr (z_bool (m_itt01 _ _ _ _ _ _ _)) (z_end hP hD hS (by rw [eI])) hS.2.2 dX10_isTripText_35 hlocks
        · have he : (m_rp tx n i mi1 nu1).2.1 = n := (nI_eq (by omega) (by omega)).mp (by rw [← hln]; exact c_20)
          refine lv_iconst (v := 1) hx hb dX10_isTripText_23 (by decide) ?_
          have eI : (m_IT tx n pt mi nu) = (m_rp tx n i mi1 nu1) := (by rw [m_IT, h5, m_itt, if_neg c_9, if_pos he])
          refine z_topi (y := (m_IT tx n pt mi nu).1) (by rw [eI]; exact ((m_rp01 _ _ _ _ _).resolve_left c_9).symm) ?_
          have hP : va_P E.1 vwCl ([[(h0, .inr (9, [.int th, .ref k1, .int sd, .ref k2, .ref k3, .int ln, .int (nI (m_rp tx n i mi1 nu1).2.1), .int ((m_rp tx n i mi1 nu1).2.2.1), .int ((m_rp tx n i mi1 nu1).2.2.2.1), .int ((m_rp tx n i mi1 nu1).2.2.2.2), .long ha]))], [(k3, .inl (E.2 0, 60, .inl tx))]] : List va_W).flatten H := zf_sub hP [0, 1] rfl
          have hD : va_D A ([[(h0, .inr (9, [.int th, .ref k1, .int sd, .ref k2, .ref k3, .int ln, .int (nI (m_rp tx n i mi1 nu1).2.1), .int ((m_rp tx n i mi1 nu1).2.2.1), .int ((m_rp tx n i mi1 nu1).2.2.2.1), .int ((m_rp tx n i mi1 nu1).2.2.2.2), .long ha]))], [(k3, .inl (E.2 0, 60, .inl tx))]] : List va_W).flatten := zf_subD hD [0, 1] (by decide) rfl
          exact W.zret (v := (m_IT tx n pt mi nu).1) hx hb hr (z_bool (m_itt01 _ _ _ _ _ _ _)) (z_end hP hD hS (by rw [eI])) hS.2.2 dX10_isTripText_24 hlocks
  refine lv_aload_n hx hb dX10_isTripText_0 rfl (lv_at hl 0 rfl) ?_
  refine lv_iconst (v := 0) hx hb dX10_isTripText_1 (by decide) ?_
  refine va_put (D := E.1) (ci := 9) (v := .int 0) (ty := .int) (C := RX10) (T := TX10) (N := 11) hx hb hts hi_X10 tyX10 tyX10_ok nmX10 hown hK.1 hP hD hS 0 rfl rfl 6 (by decide) (hts (.fieldLink RX10 115 "AltimeterWatchModel" "at" "I") (by decide +kernel)) (fun _ h9 => h9) rfl (by decide +kernel) rfl rfl (Nat.le_of_ble_eq_true rfl) dX10_isTripText_2 (fun H locs hP hD hS => ?_)
  have hP : va_P E.1 vwCl ([[(h0, .inr (9, [.int th, .ref k1, .int sd, .ref k2, .ref k3, .int ln, .int 0, .int pt, .int mi, .int nu, .long ha]))], [(k3, .inl (E.2 0, 60, .inl tx))]] : List va_W).flatten H := hP
  have hD : va_D A ([[(h0, .inr (9, [.int th, .ref k1, .int sd, .ref k2, .ref k3, .int ln, .int 0, .int pt, .int mi, .int nu, .long ha]))], [(k3, .inl (E.2 0, 60, .inl tx))]] : List va_W).flatten := hD
  exact LOOP_5 61 0 0 pt mi nu (by omega) (by omega) rfl rfl _ _ (zf_sub hP [0, 1] rfl) (zf_subD hD [0, 1] (by decide) rfl) hS ls (lv_sub hl [0] rfl)

set_option maxHeartbeats 4000000 in
set_option maxRecDepth 100000 in
theorem c_X10_firstError (l : Launch) (E : zE) (h0 k1 k2 k3 : Nat) (th sd ln at0 pt mi nu : Int32) (ha : Int64) (tx : Nat → Int32) (n : Nat) (hln : ln = nI n) (hn : n ≤ 60) : zM l yX10_firstError wsX10_firstError ({ frames := 4, cells := 0, slots := 0, locals := 88 }) E [.ref h0] ([[(h0, .inr (9, [.int th, .ref k1, .int sd, .ref k2, .ref k3, .int ln, .int at0, .int pt, .int mi, .int nu, .long ha]))], [(k3, .inl (E.2 0, 60, .inl tx))]] : List va_W).flatten (some (.int (nI (m_IT tx n pt mi nu).2.1))) ([[(h0, .inr (9, [.int 0, .ref k1, .int sd, .ref k2, .ref k3, .int ln, .int (nI (m_IT tx n pt mi nu).2.1), .int ((m_IT tx n pt mi nu).2.2.1), .int ((m_IT tx n pt mi nu).2.2.2.1), .int ((m_IT tx n pt mi nu).2.2.2.2), .long ha]))], [(k3, .inl (E.2 0, 60, .inl tx))]] : List va_W).flatten 0 0 := by
  refine z_start (cc := cX10_firstError) (maxL := 1) (ret := (some .int)) (by decide) rfl (Nat.le_of_ble_eq_true rfl) ?_
  intro Pg En s Mi below meth Cd A hx hb hr hts hown hlocks hin hml hA H hH hP hK hD hS ls hl
  have hl : lv_has ls 1 [(0, .ref h0)] := hl
  have hi_X10 : ∀ w ∈ wsX100, w ∈ wsX10_firstError := by decide +kernel
  refine lv_aload_n hx hb dX10_firstError_0 rfl (lv_at hl 0 rfl) ?_
  refine lv_iconst (v := 0) hx hb dX10_firstError_1 (by decide) ?_
  refine va_put (D := E.1) (ci := 9) (v := .int 0) (ty := .int) (C := RX10) (T := TX10) (N := 11) hx hb hts hi_X10 tyX10 tyX10_ok nmX10 hown hK.1 hP hD hS 0 rfl rfl 0 (by decide) (hts (.fieldLink RX10 20 "AltimeterWatchModel" "thrown" "I") (by decide +kernel)) (fun _ h9 => h9) rfl (by decide +kernel) rfl rfl (Nat.le_of_ble_eq_true rfl) dX10_firstError_2 (fun H locs hP hD hS => ?_)
  have hP : va_P E.1 vwCl ([[(h0, .inr (9, [.int 0, .ref k1, .int sd, .ref k2, .ref k3, .int ln, .int at0, .int pt, .int mi, .int nu, .long ha]))], [(k3, .inl (E.2 0, 60, .inl tx))]] : List va_W).flatten H := hP
  have hD : va_D A ([[(h0, .inr (9, [.int 0, .ref k1, .int sd, .ref k2, .ref k3, .int ln, .int at0, .int pt, .int mi, .int nu, .long ha]))], [(k3, .inl (E.2 0, 60, .inl tx))]] : List va_W).flatten := hD
  refine lv_aload_n hx hb dX10_firstError_5 rfl (lv_at hl 0 rfl) ?_
  have hPc : va_P E.1 vwCl ([[(h0, .inr (9, [.int 0, .ref k1, .int sd, .ref k2, .ref k3, .int ln, .int at0, .int pt, .int mi, .int nu, .long ha]))], [(k3, .inl (E.2 0, 60, .inl tx))]] : List va_W).flatten H := zf_sub hP [0, 1] rfl
  have hDc : va_D A ([[(h0, .inr (9, [.int 0, .ref k1, .int sd, .ref k2, .ref k3, .int ln, .int at0, .int pt, .int mi, .int nu, .long ha]))], [(k3, .inl (E.2 0, 60, .inl tx))]] : List va_W).flatten := zf_subD hD [0, 1] (by decide) rfl
  refine z_mut (Sc := [[(h0, .inr (9, [.int 0, .ref k1, .int sd, .ref k2, .ref k3, .int ln, .int at0, .int pt, .int mi, .int nu, .long ha]))], [(k3, .inl (E.2 0, 60, .inl tx))]]) (Sr := []) (W1 := [[(h0, .inr (9, [.int 0, .ref k1, .int sd, .ref k2, .ref k3, .int ln, .int (nI (m_IT tx n pt mi nu).2.1), .int ((m_IT tx n pt mi nu).2.2.1), .int ((m_IT tx n pt mi nu).2.2.2.1), .int ((m_IT tx n pt mi nu).2.2.2.2), .long ha]))], [(k3, .inl (E.2 0, 60, .inl tx))]]) (va_runV (As := []) (rest := []) ⟨hx, hb, hml, hown, hts⟩ (c_X10_isTripText l E h0 k1 k2 k3 0 sd ln at0 pt mi nu ha tx n hln hn H.size) (cwV 0 hts gX10_firstError_X10_isTripText rfl rfl rfl (by decide +kernel) ⟨Nat.le_of_ble_eq_true rfl, Nat.le_of_ble_eq_true rfl⟩) ⟨zP.blind, va_recv hK.1 hPc (ci := 9) (q0 := 0) rfl rfl, z_pre hK hPc hDc⟩ rfl rfl hl.1 rfl (lv_room (Nat.le_of_ble_eq_true rfl)) dX10_firstError_6 ⟨Nat.le_of_ble_eq_true rfl, Nat.le_of_ble_eq_true rfl⟩) hP hD hS hA [0, 1] [] rfl rfl (by decide) (by decide) (fun H locs hP hD hS => ?_)
  have hP : va_P E.1 vwCl ([[(h0, .inr (9, [.int 0, .ref k1, .int sd, .ref k2, .ref k3, .int ln, .int (nI (m_IT tx n pt mi nu).2.1), .int ((m_IT tx n pt mi nu).2.2.1), .int ((m_IT tx n pt mi nu).2.2.2.1), .int ((m_IT tx n pt mi nu).2.2.2.2), .long ha]))], [(k3, .inl (E.2 0, 60, .inl tx))]] : List va_W).flatten H := hP
  have hD : va_D A ([[(h0, .inr (9, [.int 0, .ref k1, .int sd, .ref k2, .ref k3, .int ln, .int (nI (m_IT tx n pt mi nu).2.1), .int ((m_IT tx n pt mi nu).2.2.1), .int ((m_IT tx n pt mi nu).2.2.2.1), .int ((m_IT tx n pt mi nu).2.2.2.2), .long ha]))], [(k3, .inl (E.2 0, 60, .inl tx))]] : List va_W).flatten := hD
  refine W.eq (g2 := F0 Mi 9 ls [.int (m_IT tx n pt mi nu).1]) rfl ?_
  refine lv_pop hx hb dX10_firstError_9 rfl ?_
  refine lv_aload_n hx hb dX10_firstError_10 rfl (lv_at hl 0 rfl) ?_
  refine va_get (D := E.1) (ci := 9) (v := .int (nI (m_IT tx n pt mi nu).2.1)) (C := RX10) (T := TX10) (N := 11) hx hb hts hi_X10 hown hK.1 hP 0 rfl rfl 6 (by decide) (hts (.fieldLink RX10 115 "AltimeterWatchModel" "at" "I") (by decide +kernel)) (fun _ h9 => h9) rfl dX10_firstError_11 ?_
  have hP : va_P E.1 vwCl ([[(h0, .inr (9, [.int 0, .ref k1, .int sd, .ref k2, .ref k3, .int ln, .int (nI (m_IT tx n pt mi nu).2.1), .int ((m_IT tx n pt mi nu).2.2.1), .int ((m_IT tx n pt mi nu).2.2.2.1), .int ((m_IT tx n pt mi nu).2.2.2.2), .long ha]))], [(k3, .inl (E.2 0, 60, .inl tx))]] : List va_W).flatten H := zf_sub hP [0, 1] rfl
  have hD : va_D A ([[(h0, .inr (9, [.int 0, .ref k1, .int sd, .ref k2, .ref k3, .int ln, .int (nI (m_IT tx n pt mi nu).2.1), .int ((m_IT tx n pt mi nu).2.2.1), .int ((m_IT tx n pt mi nu).2.2.2.1), .int ((m_IT tx n pt mi nu).2.2.2.2), .long ha]))], [(k3, .inl (E.2 0, 60, .inl tx))]] : List va_W).flatten := zf_subD hD [0, 1] (by decide) rfl
  exact W.iret (v := (nI (m_IT tx n pt mi nu).2.1)) hx hb hr (z_end hP hD hS rfl) hS.2.2 dX10_firstError_14 hlocks

/-- what a part does -/
def m_doM (sv : Nat → Int32) (pt mi nu : Int32) : Nat → Int32 :=
  if pt = 99 then m_caA sv nu else if pt = 109 then m_mkA sv (m_n (sv 75)) else if pt = 115 then m_swA sv (if sv 2 = 0 then 1 else 0) else m_trA sv 0 mi nu (m_n mi)

set_option maxHeartbeats 4000000 in
set_option maxRecDepth 100000 in
theorem c_X10_does (l : Launch) (E : zE) (h0 k1 k2 k3 : Nat) (th sd ln at0 pt mi nu : Int32) (ha : Int64) (sv : Nat → Int32) (hz : z_ok sv) (htr : ¬ pt = 99 → ¬ pt = 109 → ¬ pt = 115 → mi = nI (m_n mi) ∧ m_n mi ≤ 120) : zM l yX10_does wsX10_does ({ frames := 5, cells := 0, slots := 0, locals := 112 }) E [.ref h0] ([[(h0, .inr (9, [.int th, .ref k1, .int sd, .ref k2, .ref k3, .int ln, .int at0, .int pt, .int mi, .int nu, .long ha]))], [(k1, .inl (E.2 0, 1160, .inl sv))]] : List va_W).flatten none ([[(h0, .inr (9, [.int th, .ref k1, .int sd, .ref k2, .ref k3, .int ln, .int at0, .int pt, .int mi, .int nu, .long ha]))], [(k1, .inl (E.2 0, 1160, .inl (m_doM sv pt mi nu)))]] : List va_W).flatten 0 0 := by
  refine z_start (cc := cX10_does) (maxL := 1) (ret := none) (by decide) rfl (Nat.le_of_ble_eq_true rfl) ?_
  intro Pg En s Mi below meth Cd A hx hb hr hts hown hlocks hin hml hA H hH hP hK hD hS ls hl
  have hl : lv_has ls 1 [(0, .ref h0)] := hl
  have hi_X10 : ∀ w ∈ wsX100, w ∈ wsX10_does := by decide +kernel
  refine lv_aload_n hx hb dX10_does_0 rfl (lv_at hl 0 rfl) ?_
  refine va_get (D := E.1) (ci := 9) (v := .int pt) (C := RX10) (T := TX10) (N := 11) hx hb hts hi_X10 hown hK.1 hP 0 rfl rfl 7 (by decide) (hts (.fieldLink RX10 127 "AltimeterWatchModel" "part" "I") (by decide +kernel)) (fun _ h9 => h9) rfl dX10_does_1 ?_
  by_cases k0_4 : pt = 99
  · refine z_topi k0_4 ?_
    refine lv_lookup (off := 65) (tgt := 69) hx hb dX10_does_4 (by decide) (by decide) (by decide) ?_
    refine lv_aload_n hx hb dX10_does_69 rfl (lv_at hl 0 rfl) ?_
    refine lv_aload_n hx hb dX10_does_70 rfl (lv_at hl 0 rfl) ?_
    refine va_get (D := E.1) (ci := 9) (v := .int nu) (C := RX10) (T := TX10) (N := 11) hx hb hts hi_X10 hown hK.1 hP 0 rfl rfl 9 (by decide) (hts (.fieldLink RX10 121 "AltimeterWatchModel" "number" "I") (by decide +kernel)) (fun _ h9 => h9) rfl dX10_does_71 ?_
    have hPc : va_P E.1 vwCl ([[(h0, .inr (9, [.int th, .ref k1, .int sd, .ref k2, .ref k3, .int ln, .int at0, .int pt, .int mi, .int nu, .long ha]))], [(k1, .inl (E.2 0, 1160, .inl sv))]] : List va_W).flatten H := zf_sub hP [0, 1] rfl
    have hDc : va_D A ([[(h0, .inr (9, [.int th, .ref k1, .int sd, .ref k2, .ref k3, .int ln, .int at0, .int pt, .int mi, .int nu, .long ha]))], [(k1, .inl (E.2 0, 1160, .inl sv))]] : List va_W).flatten := zf_subD hD [0, 1] (by decide) rfl
    refine z_mut (Sc := [[(h0, .inr (9, [.int th, .ref k1, .int sd, .ref k2, .ref k3, .int ln, .int at0, .int pt, .int mi, .int nu, .long ha]))], [(k1, .inl (E.2 0, 1160, .inl sv))]]) (Sr := []) (W1 := [[(h0, .inr (9, [.int th, .ref k1, .int sd, .ref k2, .ref k3, .int ln, .int at0, .int pt, .int mi, .int nu, .long ha]))], [(k1, .inl (E.2 0, 1160, .inl (m_caA sv nu)))]]) (va_runV (As := [.int nu]) (rest := []) ⟨hx, hb, hml, hown, hts⟩ (c_X10_calibrates l E h0 k1 k2 k3 th sd ln at0 pt mi nu ha sv nu H.size) (cwV 1 hts gX10_does_X10_calibrates rfl rfl rfl (by decide +kernel) ⟨Nat.le_of_ble_eq_true rfl, Nat.le_of_ble_eq_true rfl⟩) ⟨zP.blind, va_recv hK.1 hPc (ci := 9) (q0 := 0) rfl rfl, z_pre hK hPc hDc⟩ rfl rfl hl.1 rfl (lv_room (Nat.le_of_ble_eq_true rfl)) dX10_does_74 ⟨Nat.le_of_ble_eq_true rfl, Nat.le_of_ble_eq_true rfl⟩) hP hD hS hA [0, 1] [] rfl rfl (by decide) (by decide) (fun H locs hP hD hS => ?_)
    have hP : va_P E.1 vwCl ([[(h0, .inr (9, [.int th, .ref k1, .int sd, .ref k2, .ref k3, .int ln, .int at0, .int pt, .int mi, .int nu, .long ha]))], [(k1, .inl (E.2 0, 1160, .inl (m_caA sv nu)))]] : List va_W).flatten H := hP
    have hD : va_D A ([[(h0, .inr (9, [.int th, .ref k1, .int sd, .ref k2, .ref k3, .int ln, .int at0, .int pt, .int mi, .int nu, .long ha]))], [(k1, .inl (E.2 0, 1160, .inl (m_caA sv nu)))]] : List va_W).flatten := hD
    refine W.eq (g2 := F0 Mi 77 ls [.int (m_std (sv (0 + 0)) - m_std (sv (0 + 1)) - nu)]) rfl ?_
    refine lv_pop hx hb dX10_does_77 rfl ?_
    refine lv_goto (tgt := 94) hx hb dX10_does_78 (by decide) ?_
    have hP : va_P E.1 vwCl ([[(h0, .inr (9, [.int th, .ref k1, .int sd, .ref k2, .ref k3, .int ln, .int at0, .int pt, .int mi, .int nu, .long ha]))], [(k1, .inl (E.2 0, 1160, .inl (m_caA sv nu)))]] : List va_W).flatten H := zf_sub hP [0, 1] rfl
    have hD : va_D A ([[(h0, .inr (9, [.int th, .ref k1, .int sd, .ref k2, .ref k3, .int ln, .int at0, .int pt, .int mi, .int nu, .long ha]))], [(k1, .inl (E.2 0, 1160, .inl (m_caA sv nu)))]] : List va_W).flatten := zf_subD hD [0, 1] (by decide) rfl
    exact W.vret hx hb hr (z_end hP hD hS (by rw [m_doM, if_pos k0_4])) hS.2.2 dX10_does_94 hlocks
  · skip
    by_cases k1_4 : pt = 109
    · refine z_topi k1_4 ?_
      refine lv_lookup (off := 57) (tgt := 61) hx hb dX10_does_4 (by decide) (by decide) (by decide) ?_
      refine lv_aload_n hx hb dX10_does_61 rfl (lv_at hl 0 rfl) ?_
      have hPc : va_P E.1 vwCl ([[(h0, .inr (9, [.int th, .ref k1, .int sd, .ref k2, .ref k3, .int ln, .int at0, .int pt, .int mi, .int nu, .long ha]))], [(k1, .inl (E.2 0, 1160, .inl sv))]] : List va_W).flatten H := zf_sub hP [0, 1] rfl
      have hDc : va_D A ([[(h0, .inr (9, [.int th, .ref k1, .int sd, .ref k2, .ref k3, .int ln, .int at0, .int pt, .int mi, .int nu, .long ha]))], [(k1, .inl (E.2 0, 1160, .inl sv))]] : List va_W).flatten := zf_subD hD [0, 1] (by decide) rfl
      refine z_mut (Sc := [[(h0, .inr (9, [.int th, .ref k1, .int sd, .ref k2, .ref k3, .int ln, .int at0, .int pt, .int mi, .int nu, .long ha]))], [(k1, .inl (E.2 0, 1160, .inl sv))]]) (Sr := []) (W1 := [[(h0, .inr (9, [.int th, .ref k1, .int sd, .ref k2, .ref k3, .int ln, .int at0, .int pt, .int mi, .int nu, .long ha]))], [(k1, .inl (E.2 0, 1160, .inl (m_mkA sv (m_n (sv 75)))))]]) (va_runV (As := []) (rest := []) ⟨hx, hb, hml, hown, hts⟩ (c_X10_marked l E h0 k1 k2 k3 th sd ln at0 pt mi nu ha sv (m_n (sv 75)) hz.2.1.1 hz.2.1.2 H.size) (cwV 0 hts gX10_does_X10_marked rfl rfl rfl (by decide +kernel) ⟨Nat.le_of_ble_eq_true rfl, Nat.le_of_ble_eq_true rfl⟩) ⟨zP.blind, va_recv hK.1 hPc (ci := 9) (q0 := 0) rfl rfl, z_pre hK hPc hDc⟩ rfl rfl hl.1 rfl (lv_room (Nat.le_of_ble_eq_true rfl)) dX10_does_62 ⟨Nat.le_of_ble_eq_true rfl, Nat.le_of_ble_eq_true rfl⟩) hP hD hS hA [0, 1] [] rfl rfl (by decide) (by decide) (fun H locs hP hD hS => ?_)
      have hP : va_P E.1 vwCl ([[(h0, .inr (9, [.int th, .ref k1, .int sd, .ref k2, .ref k3, .int ln, .int at0, .int pt, .int mi, .int nu, .long ha]))], [(k1, .inl (E.2 0, 1160, .inl (m_mkA sv (m_n (sv 75)))))]] : List va_W).flatten H := hP
      have hD : va_D A ([[(h0, .inr (9, [.int th, .ref k1, .int sd, .ref k2, .ref k3, .int ln, .int at0, .int pt, .int mi, .int nu, .long ha]))], [(k1, .inl (E.2 0, 1160, .inl (m_mkA sv (m_n (sv 75)))))]] : List va_W).flatten := hD
      refine W.eq (g2 := F0 Mi 65 ls [.int (nI (m_mkN (m_n (sv 75)) + 1))]) rfl ?_
      refine lv_pop hx hb dX10_does_65 rfl ?_
      refine lv_goto (tgt := 94) hx hb dX10_does_66 (by decide) ?_
      have hP : va_P E.1 vwCl ([[(h0, .inr (9, [.int th, .ref k1, .int sd, .ref k2, .ref k3, .int ln, .int at0, .int pt, .int mi, .int nu, .long ha]))], [(k1, .inl (E.2 0, 1160, .inl (m_mkA sv (m_n (sv 75)))))]] : List va_W).flatten H := zf_sub hP [0, 1] rfl
      have hD : va_D A ([[(h0, .inr (9, [.int th, .ref k1, .int sd, .ref k2, .ref k3, .int ln, .int at0, .int pt, .int mi, .int nu, .long ha]))], [(k1, .inl (E.2 0, 1160, .inl (m_mkA sv (m_n (sv 75)))))]] : List va_W).flatten := zf_subD hD [0, 1] (by decide) rfl
      exact W.vret hx hb hr (z_end hP hD hS (by rw [m_doM, if_neg k0_4, if_pos k1_4])) hS.2.2 dX10_does_94 hlocks
    · skip
      by_cases k2_4 : pt = 115
      · refine z_topi k2_4 ?_
        refine lv_lookup (off := 36) (tgt := 40) hx hb dX10_does_4 (by decide) (by decide) (by decide) ?_
        refine lv_aload_n hx hb dX10_does_40 rfl (lv_at hl 0 rfl) ?_
        refine lv_aload_n hx hb dX10_does_41 rfl (lv_at hl 0 rfl) ?_
        refine va_get (D := E.1) (ci := 9) (v := .ref k1) (C := RX10) (T := TX10) (N := 11) hx hb hts hi_X10 hown hK.1 hP 0 rfl rfl 1 (by decide) (hts (.fieldLink RX10 7 "AltimeterWatchModel" "s" "[I") (by decide +kernel)) (fun _ h9 => h9) rfl dX10_does_42 ?_
        refine lv_iconst (v := 2) hx hb dX10_does_45 (by decide) ?_
        refine z_iald (k := 2) hx hb hK.1 hP 1 rfl rfl (by decide) (by decide) dX10_does_46 ?_
        refine lv_if_ne (tgt := 54) hx hb dX10_does_47 (by decide) (fun c_47 => ?_) (fun c_47 => ?_)
        · refine lv_iconst (v := 0) hx hb dX10_does_54 (by decide) ?_
          refine z_topi (y := (if sv 2 = 0 then 1 else 0)) (if_neg c_47).symm ?_
          have hPc : va_P E.1 vwCl ([[(h0, .inr (9, [.int th, .ref k1, .int sd, .ref k2, .ref k3, .int ln, .int at0, .int pt, .int mi, .int nu, .long ha]))], [(k1, .inl (E.2 0, 1160, .inl sv))]] : List va_W).flatten H := zf_sub hP [0, 1] rfl
          have hDc : va_D A ([[(h0, .inr (9, [.int th, .ref k1, .int sd, .ref k2, .ref k3, .int ln, .int at0, .int pt, .int mi, .int nu, .long ha]))], [(k1, .inl (E.2 0, 1160, .inl sv))]] : List va_W).flatten := zf_subD hD [0, 1] (by decide) rfl
          refine z_mut (Sc := [[(h0, .inr (9, [.int th, .ref k1, .int sd, .ref k2, .ref k3, .int ln, .int at0, .int pt, .int mi, .int nu, .long ha]))], [(k1, .inl (E.2 0, 1160, .inl sv))]]) (Sr := []) (W1 := [[(h0, .inr (9, [.int th, .ref k1, .int sd, .ref k2, .ref k3, .int ln, .int at0, .int pt, .int mi, .int nu, .long ha]))], [(k1, .inl (E.2 0, 1160, .inl (m_swA sv (if sv 2 = 0 then 1 else 0))))]]) (va_runV (As := [.int (if sv 2 = 0 then 1 else 0)]) (rest := []) ⟨hx, hb, hml, hown, hts⟩ (c_X10_switches l E h0 k1 k2 k3 th sd ln at0 pt mi nu ha sv (if sv 2 = 0 then 1 else 0) (m_on01 sv) H.size) (cwV 1 hts gX10_does_X10_switches rfl rfl rfl (by decide +kernel) ⟨Nat.le_of_ble_eq_true rfl, Nat.le_of_ble_eq_true rfl⟩) ⟨zP.blind, va_recv hK.1 hPc (ci := 9) (q0 := 0) rfl rfl, z_pre hK hPc hDc⟩ rfl rfl hl.1 rfl (lv_room (Nat.le_of_ble_eq_true rfl)) dX10_does_55 ⟨Nat.le_of_ble_eq_true rfl, Nat.le_of_ble_eq_true rfl⟩) hP hD hS hA [0, 1] [] rfl rfl (by decide) (by decide) (fun H locs hP hD hS => ?_)
          have hP : va_P E.1 vwCl ([[(h0, .inr (9, [.int th, .ref k1, .int sd, .ref k2, .ref k3, .int ln, .int at0, .int pt, .int mi, .int nu, .long ha]))], [(k1, .inl (E.2 0, 1160, .inl (m_swA sv (if sv 2 = 0 then 1 else 0))))]] : List va_W).flatten H := hP
          have hD : va_D A ([[(h0, .inr (9, [.int th, .ref k1, .int sd, .ref k2, .ref k3, .int ln, .int at0, .int pt, .int mi, .int nu, .long ha]))], [(k1, .inl (E.2 0, 1160, .inl (m_swA sv (if sv 2 = 0 then 1 else 0))))]] : List va_W).flatten := hD
          refine W.eq (g2 := F0 Mi 58 ls []) rfl ?_
          refine lv_goto (tgt := 94) hx hb dX10_does_58 (by decide) ?_
          have hP : va_P E.1 vwCl ([[(h0, .inr (9, [.int th, .ref k1, .int sd, .ref k2, .ref k3, .int ln, .int at0, .int pt, .int mi, .int nu, .long ha]))], [(k1, .inl (E.2 0, 1160, .inl (m_swA sv (if sv 2 = 0 then 1 else 0))))]] : List va_W).flatten H := zf_sub hP [0, 1] rfl
          have hD : va_D A ([[(h0, .inr (9, [.int th, .ref k1, .int sd, .ref k2, .ref k3, .int ln, .int at0, .int pt, .int mi, .int nu, .long ha]))], [(k1, .inl (E.2 0, 1160, .inl (m_swA sv (if sv 2 = 0 then 1 else 0))))]] : List va_W).flatten := zf_subD hD [0, 1] (by decide) rfl
          exact W.vret hx hb hr (z_end hP hD hS (by rw [m_doM, if_neg k0_4, if_neg k1_4, if_pos k2_4])) hS.2.2 dX10_does_94 hlocks
        · refine lv_iconst (v := 1) hx hb dX10_does_50 (by decide) ?_
          refine lv_goto (tgt := 55) hx hb dX10_does_51 (by decide) ?_
          refine z_topi (y := (if sv 2 = 0 then 1 else 0)) (if_pos c_47).symm ?_
          have hPc : va_P E.1 vwCl ([[(h0, .inr (9, [.int th, .ref k1, .int sd, .ref k2, .ref k3, .int ln, .int at0, .int pt, .int mi, .int nu, .long ha]))], [(k1, .inl (E.2 0, 1160, .inl sv))]] : List va_W).flatten H := zf_sub hP [0, 1] rfl
          have hDc : va_D A ([[(h0, .inr (9, [.int th, .ref k1, .int sd, .ref k2, .ref k3, .int ln, .int at0, .int pt, .int mi, .int nu, .long ha]))], [(k1, .inl (E.2 0, 1160, .inl sv))]] : List va_W).flatten := zf_subD hD [0, 1] (by decide) rfl
          refine z_mut (Sc := [[(h0, .inr (9, [.int th, .ref k1, .int sd, .ref k2, .ref k3, .int ln, .int at0, .int pt, .int mi, .int nu, .long ha]))], [(k1, .inl (E.2 0, 1160, .inl sv))]]) (Sr := []) (W1 := [[(h0, .inr (9, [.int th, .ref k1, .int sd, .ref k2, .ref k3, .int ln, .int at0, .int pt, .int mi, .int nu, .long ha]))], [(k1, .inl (E.2 0, 1160, .inl (m_swA sv (if sv 2 = 0 then 1 else 0))))]]) (va_runV (As := [.int (if sv 2 = 0 then 1 else 0)]) (rest := []) ⟨hx, hb, hml, hown, hts⟩ (c_X10_switches l E h0 k1 k2 k3 th sd ln at0 pt mi nu ha sv (if sv 2 = 0 then 1 else 0) (m_on01 sv) H.size) (cwV 1 hts gX10_does_X10_switches rfl rfl rfl (by decide +kernel) ⟨Nat.le_of_ble_eq_true rfl, Nat.le_of_ble_eq_true rfl⟩) ⟨zP.blind, va_recv hK.1 hPc (ci := 9) (q0 := 0) rfl rfl, z_pre hK hPc hDc⟩ rfl rfl hl.1 rfl (lv_room (Nat.le_of_ble_eq_true rfl)) dX10_does_55 ⟨Nat.le_of_ble_eq_true rfl, Nat.le_of_ble_eq_true rfl⟩) hP hD hS hA [0, 1] [] rfl rfl (by decide) (by decide) (fun H locs hP hD hS => ?_)
          have hP : va_P E.1 vwCl ([[(h0, .inr (9, [.int th, .ref k1, .int sd, .ref k2, .ref k3, .int ln, .int at0, .int pt, .int mi, .int nu, .long ha]))], [(k1, .inl (E.2 0, 1160, .inl (m_swA sv (if sv 2 = 0 then 1 else 0))))]] : List va_W).flatten H := hP
          have hD : va_D A ([[(h0, .inr (9, [.int th, .ref k1, .int sd, .ref k2, .ref k3, .int ln, .int at0, .int pt, .int mi, .int nu, .long ha]))], [(k1, .inl (E.2 0, 1160, .inl (m_swA sv (if sv 2 = 0 then 1 else 0))))]] : List va_W).flatten := hD
          refine W.eq (g2 := F0 Mi 58 ls []) rfl ?_
          refine lv_goto (tgt := 94) hx hb dX10_does_58 (by decide) ?_
          have hP : va_P E.1 vwCl ([[(h0, .inr (9, [.int th, .ref k1, .int sd, .ref k2, .ref k3, .int ln, .int at0, .int pt, .int mi, .int nu, .long ha]))], [(k1, .inl (E.2 0, 1160, .inl (m_swA sv (if sv 2 = 0 then 1 else 0))))]] : List va_W).flatten H := zf_sub hP [0, 1] rfl
          have hD : va_D A ([[(h0, .inr (9, [.int th, .ref k1, .int sd, .ref k2, .ref k3, .int ln, .int at0, .int pt, .int mi, .int nu, .long ha]))], [(k1, .inl (E.2 0, 1160, .inl (m_swA sv (if sv 2 = 0 then 1 else 0))))]] : List va_W).flatten := zf_subD hD [0, 1] (by decide) rfl
          exact W.vret hx hb hr (z_end hP hD hS (by rw [m_doM, if_neg k0_4, if_neg k1_4, if_pos k2_4])) hS.2.2 dX10_does_94 hlocks
      · refine lv_lookup (off := 77) (tgt := 81) hx hb dX10_does_4 (by decide) ((lv_osw (a := 99) k0_4 rfl).trans ((lv_osw (a := 109) k1_4 rfl).trans ((lv_osw (a := 115) k2_4 rfl).trans rfl))) (by decide) ?_
        refine lv_aload_n hx hb dX10_does_81 rfl (lv_at hl 0 rfl) ?_
        refine lv_iconst (v := 0) hx hb dX10_does_82 (by decide) ?_
        refine lv_aload_n hx hb dX10_does_83 rfl (lv_at hl 0 rfl) ?_
        refine va_get (D := E.1) (ci := 9) (v := .int mi) (C := RX10) (T := TX10) (N := 11) hx hb hts hi_X10 hown hK.1 hP 0 rfl rfl 8 (by decide) (hts (.fieldLink RX10 136 "AltimeterWatchModel" "minutes" "I") (by decide +kernel)) (fun _ h9 => h9) rfl dX10_does_84 ?_
        refine lv_aload_n hx hb dX10_does_87 rfl (lv_at hl 0 rfl) ?_
        refine va_get (D := E.1) (ci := 9) (v := .int nu) (C := RX10) (T := TX10) (N := 11) hx hb hts hi_X10 hown hK.1 hP 0 rfl rfl 9 (by decide) (hts (.fieldLink RX10 121 "AltimeterWatchModel" "number" "I") (by decide +kernel)) (fun _ h9 => h9) rfl dX10_does_88 ?_
        have hPc : va_P E.1 vwCl ([[(h0, .inr (9, [.int th, .ref k1, .int sd, .ref k2, .ref k3, .int ln, .int at0, .int pt, .int mi, .int nu, .long ha]))], [(k1, .inl (E.2 0, 1160, .inl sv))]] : List va_W).flatten H := zf_sub hP [0, 1] rfl
        have hDc : va_D A ([[(h0, .inr (9, [.int th, .ref k1, .int sd, .ref k2, .ref k3, .int ln, .int at0, .int pt, .int mi, .int nu, .long ha]))], [(k1, .inl (E.2 0, 1160, .inl sv))]] : List va_W).flatten := zf_subD hD [0, 1] (by decide) rfl
        refine z_mut (Sc := [[(h0, .inr (9, [.int th, .ref k1, .int sd, .ref k2, .ref k3, .int ln, .int at0, .int pt, .int mi, .int nu, .long ha]))], [(k1, .inl (E.2 0, 1160, .inl sv))]]) (Sr := []) (W1 := [[(h0, .inr (9, [.int th, .ref k1, .int sd, .ref k2, .ref k3, .int ln, .int at0, .int pt, .int mi, .int nu, .long ha]))], [(k1, .inl (E.2 0, 1160, .inl (m_trA sv 0 mi nu (m_n mi))))]]) (va_runV (As := [.int 0, .int mi, .int nu]) (rest := []) ⟨hx, hb, hml, hown, hts⟩ (c_X10_trips l E h0 k1 k2 k3 th sd ln at0 pt mi nu ha 0 0 rfl (by omega) sv (m_n (sv 14)) hz.1.1 hz.1.2 mi nu (m_n mi) (htr k0_4 k1_4 k2_4).1 (htr k0_4 k1_4 k2_4).2 H.size) (cwV 3 hts gX10_does_X10_trips rfl rfl rfl (by decide +kernel) ⟨Nat.le_of_ble_eq_true rfl, Nat.le_of_ble_eq_true rfl⟩) ⟨zP.blind, va_recv hK.1 hPc (ci := 9) (q0 := 0) rfl rfl, z_pre hK hPc hDc⟩ rfl rfl hl.1 rfl (lv_room (Nat.le_of_ble_eq_true rfl)) dX10_does_91 ⟨Nat.le_of_ble_eq_true rfl, Nat.le_of_ble_eq_true rfl⟩) hP hD hS hA [0, 1] [] rfl rfl (by decide) (by decide) (fun H locs hP hD hS => ?_)
        have hP : va_P E.1 vwCl ([[(h0, .inr (9, [.int th, .ref k1, .int sd, .ref k2, .ref k3, .int ln, .int at0, .int pt, .int mi, .int nu, .long ha]))], [(k1, .inl (E.2 0, 1160, .inl (m_trA sv 0 mi nu (m_n mi))))]] : List va_W).flatten H := hP
        have hD : va_D A ([[(h0, .inr (9, [.int th, .ref k1, .int sd, .ref k2, .ref k3, .int ln, .int at0, .int pt, .int mi, .int nu, .long ha]))], [(k1, .inl (E.2 0, 1160, .inl (m_trA sv 0 mi nu (m_n mi))))]] : List va_W).flatten := hD
        refine W.eq (g2 := F0 Mi 94 ls []) rfl ?_
        have hP : va_P E.1 vwCl ([[(h0, .inr (9, [.int th, .ref k1, .int sd, .ref k2, .ref k3, .int ln, .int at0, .int pt, .int mi, .int nu, .long ha]))], [(k1, .inl (E.2 0, 1160, .inl (m_trA sv 0 mi nu (m_n mi))))]] : List va_W).flatten H := zf_sub hP [0, 1] rfl
        have hD : va_D A ([[(h0, .inr (9, [.int th, .ref k1, .int sd, .ref k2, .ref k3, .int ln, .int at0, .int pt, .int mi, .int nu, .long ha]))], [(k1, .inl (E.2 0, 1160, .inl (m_trA sv 0 mi nu (m_n mi))))]] : List va_W).flatten := zf_subD hD [0, 1] (by decide) rfl
        exact W.vret hx hb hr (z_end hP hD hS (by rw [m_doM, if_neg k0_4, if_neg k1_4, if_neg k2_4])) hS.2.2 dX10_does_94 hlocks

theorem m_sh_hi {sv : Nat → Int32} {b x : Nat} : ∀ k, b + 15 + k ≤ x → m_sh sv b k x = sv x
  | 0, _ => rfl
  | k + 1, h => by
    rw [m_sh, pk_un (by omega)]
    exact m_sh_hi k (by omega)
theorem m_lgA_out {sv : Nat → Int32} {b m x : Nat} (hm : m ≤ 60) (hx : x < b + 14 ∨ b + 75 ≤ x) : m_lgA sv b m x = sv x := by
  have hc := m_lgC_le hm
  unfold m_lgA
  rw [pk_un (by omega), pk_un (by omega), pk_un (by omega)]
  unfold m_lgT
  split
  · rcases hx with h | h
    · exact m_sh_lo (by omega) _
    · exact m_sh_hi _ (by omega)
  · rfl
theorem m_clA_out {sv : Nat → Int32} {b x : Nat} (h7 : x ≠ b + 7) (h8 : x ≠ b + 8) (h9 : x ≠ b + 9) : m_clA sv b x = sv x := by
  unfold m_clA m_clB
  split
  · rw [pk_un h9, pk_un h8, pk_un h7]
  · rfl
theorem m_minA_out {sv : Nat → Int32} {b m x : Nat} {p : Int32} (hm : m ≤ 60) (hx : x < b ∨ b + 75 ≤ x) : m_minA sv b m p x = sv x := by
  unfold m_minA
  rw [pk_un (by omega), pk_un (by omega)]
  unfold m_mp2
  split
  · rw [m_lgA_out hm (by omega), pk_un (by omega), m_mp1, pk_un (by omega), pk_un (by omega)]
  · rw [m_clA_out (by omega) (by omega) (by omega), m_mp1, pk_un (by omega), pk_un (by omega)]
theorem m_minA_2 {sv : Nat → Int32} {b m : Nat} {p : Int32} (hm : m ≤ 60) : m_minA sv b m p (b + 2) = sv (b + 2) := by
  unfold m_minA
  rw [pk_un (by omega), pk_un (by omega)]
  unfold m_mp2
  split
  · rw [m_lgA_out hm (by omega), pk_un (by omega), m_mp1, pk_un (by omega), pk_un (by omega)]
  · rw [m_clA_out (by omega) (by omega) (by omega), m_mp1, pk_un (by omega), pk_un (by omega)]
theorem z_ok_minA {sv : Nat → Int32} {p : Int32} (hz : z_ok sv) : z_ok (m_minA sv 0 (m_n (sv 14)) p) := by
  obtain ⟨h1, h2, h3, h4⟩ := hz
  have e14 : m_minA sv 0 (m_n (sv 14)) p 14 = nI (m_mpn sv 0 (m_n (sv 14))) := m_minA_14 (b := 0) h1.1
  have e2 : m_minA sv 0 (m_n (sv 14)) p 2 = sv 2 := m_minA_2 (b := 0) h1.2
  have e75 : m_minA sv 0 (m_n (sv 14)) p 75 = sv 75 := m_minA_out h1.2 (by omega)
  have e13 : m_minA sv 0 (m_n (sv 14)) p 13 = m_mpa sv 0 (m_n (sv 14)) p := by rw [m_minA]; exact pk_us
  have hle := m_mpn_le (sv := sv) (b := 0) h1.2
  unfold z_ok
  rw [e14, e2, e75, e13, m_n_nI (by omega)]
  exact ⟨⟨rfl, hle⟩, h2, h3, m_alM01 _ _ _⟩
theorem z_ok_trA {sv : Nat → Int32} {n p : Int32} (hz : z_ok sv) : ∀ k, z_ok (m_trA sv 0 n p k)
  | 0 => hz
  | k + 1 => by rw [m_trA]; exact z_ok_minA (z_ok_trA hz k)
theorem z_ok_caA {sv : Nat → Int32} {a : Int32} (hz : z_ok sv) : z_ok (m_caA sv a) := by
  have e : ∀ x, (x = 14 ∨ x = 75 ∨ x = 2 ∨ x = 13) → m_caA sv a x = sv x := by
    intro x hx
    unfold m_caA m_caT m_stA
    rw [pk_un (by omega), pk_un (by omega), pk_un (by omega), pk_un (by omega), pk_un (by omega)]
  unfold z_ok
  rw [e 14 (by omega), e 75 (by omega), e 2 (by omega), e 13 (by omega)]
  exact hz
theorem z_ok_swA {sv : Nat → Int32} {on : Int32} (hz : z_ok sv) (hon : on = 0 ∨ on = 1) : z_ok (m_swA sv on) := by
  obtain ⟨h1, h2, h3, h4⟩ := hz
  have hi : ∀ x, x ≠ 9 → x ≠ 3 → x ≠ (if on = 0 then 9 else 3) := by
    intro x h9 h3
    split <;> assumption
  have e14 : m_swA sv on 14 = nI 0 := by unfold m_swA; rw [pk_un (hi _ (by decide) (by decide)), pk_un (by decide), pk_us]; rfl
  have e13 : m_swA sv on 13 = 0 := by unfold m_swA; rw [pk_un (hi _ (by decide) (by decide)), pk_us]
  have e2 : m_swA sv on 2 = on := by unfold m_swA; rw [pk_un (hi _ (by decide) (by decide)), pk_un (by decide), pk_un (by decide), pk_us]
  have e75 : m_swA sv on 75 = sv 75 := by unfold m_swA; rw [pk_un (hi _ (by decide) (by decide)), pk_un (by decide), pk_un (by decide), pk_un (by decide)]
  unfold z_ok
  rw [e14, e13, e2, e75, m_n_nI (by decide)]
  exact ⟨⟨rfl, by decide⟩, h2, hon, Or.inl rfl⟩
theorem m_mkA_lo {sv : Nat → Int32} {c x : Nat} (hx : x < 75) : m_mkA sv c x = sv x := by
  unfold m_mkA
  rw [pk_un (by omega), pk_un (by omega), pk_un (by omega), pk_un (by omega), pk_un (by omega), pk_un (by omega)]
  unfold m_mkT
  split
  · exact m_s4_lo (by omega) _
  · rfl
theorem z_ok_mkA {sv : Nat → Int32} (hz : z_ok sv) : z_ok (m_mkA sv (m_n (sv 75))) := by
  obtain ⟨h1, h2, h3, h4⟩ := hz
  have e75 : m_mkA sv (m_n (sv 75)) 75 = nI (m_mkN (m_n (sv 75)) + 1) := by unfold m_mkA; exact pk_us
  have hle : m_mkN (m_n (sv 75)) + 1 ≤ 10 := by unfold m_mkN; split <;> omega
  unfold z_ok
  rw [e75, m_mkA_lo (x := 14) (by decide), m_mkA_lo (x := 2) (by decide), m_mkA_lo (x := 13) (by decide), m_n_nI (by omega)]
  exact ⟨h1, ⟨rfl, hle⟩, h3, h4⟩
theorem z_ok_doM {sv : Nat → Int32} {pt mi nu : Int32} (hz : z_ok sv) : z_ok (m_doM sv pt mi nu) := by
  unfold m_doM
  split
  · exact z_ok_caA hz
  · split
    · exact z_ok_mkA hz
    · split
      · exact z_ok_swA hz (m_on01 sv)
      · exact z_ok_trA hz _
theorem z_ok_svA {sv : Nat → Int32} {d : Nat} (hz : z_ok sv) : z_ok (m_svA sv d) := by
  unfold z_ok
  rw [m_svA_lo (by decide), m_svA_lo (by decide), m_svA_lo (by decide), m_svA_lo (by decide)]
  exact hz
/-- the parts done, one by one, from the place i on -/
def m_goM (tx : Nat → Int32) (n : Nat) : Nat → Nat → Int32 → Int32 → Int32 → (Nat → Int32) → (Nat × Int32 × Int32 × Int32) × (Nat → Int32)
  | 0, i, pt, mi, nu, sv => ((i, pt, mi, nu), sv)
  | f + 1, i, _, mi, nu, sv => if (m_rp tx n i mi nu).1 = 0 then ((m_rp tx n i mi nu).2, sv)
    else m_goM tx n f (m_tkN tx n (m_rp tx n i mi nu).2.1 59) (m_rp tx n i mi nu).2.2.1 (m_rp tx n i mi nu).2.2.2.1 (m_rp tx n i mi nu).2.2.2.2 (m_doM sv (m_rp tx n i mi nu).2.2.1 (m_rp tx n i mi nu).2.2.2.1 (m_rp tx n i mi nu).2.2.2.2)
theorem m_tkN_le {tx : Nat → Int32} {n i : Nat} {x : Int32} (hi : i ≤ n) (hx : ¬ x = 0) : m_tkN tx n i x ≤ n ∧ i ≤ m_tkN tx n i x := by
  unfold m_tkN
  split
  · rename_i c
    have := m_sg_lt c hx
    omega
  · omega

set_option maxHeartbeats 4000000 in
set_option maxRecDepth 100000 in
theorem c_X10_run_n (l : Launch) (E : zE) (h0 k1 k2 k3 : Nat) (th sd ln at0 pt mi nu : Int32) (ha : Int64) (sv : Nat → Int32) (tx : Nat → Int32) (n : Nat) (hln : ln = nI n) (hn : n ≤ 60) (hok : (m_IT tx n pt mi nu).1 = 0) : zM l yX10_run wsX10_run ({ frames := 4, cells := 0, slots := 0, locals := 88 }) E [.ref h0] ([[(h0, .inr (9, [.int th, .ref k1, .int sd, .ref k2, .ref k3, .int ln, .int at0, .int pt, .int mi, .int nu, .long ha]))], [(k1, .inl (E.2 0, 1160, .inl sv))], [(k3, .inl (E.2 0, 60, .inl tx))]] : List va_W).flatten (some (.int 0)) ([[(h0, .inr (9, [.int 1, .ref k1, .int sd, .ref k2, .ref k3, .int ln, .int (nI (m_IT tx n pt mi nu).2.1), .int ((m_IT tx n pt mi nu).2.2.1), .int ((m_IT tx n pt mi nu).2.2.2.1), .int ((m_IT tx n pt mi nu).2.2.2.2), .long ha]))], [(k1, .inl (E.2 0, 1160, .inl sv))], [(k3, .inl (E.2 0, 60, .inl tx))]] : List va_W).flatten 0 0 := by
  refine z_start (cc := cX10_run) (maxL := 1) (ret := (some .int)) (by decide) rfl (Nat.le_of_ble_eq_true rfl) ?_
  intro Pg En s Mi below meth Cd A hx hb hr hts hown hlocks hin hml hA H hH hP hK hD hS ls hl
  have hl : lv_has ls 1 [(0, .ref h0)] := hl
  refine lv_aload_n hx hb dX10_run_0 rfl (lv_at hl 0 rfl) ?_
  refine lv_aload_n hx hb dX10_run_1 rfl (lv_at hl 0 rfl) ?_
  have hPc : va_P E.1 vwCl ([[(h0, .inr (9, [.int th, .ref k1, .int sd, .ref k2, .ref k3, .int ln, .int at0, .int pt, .int mi, .int nu, .long ha]))], [(k3, .inl (E.2 0, 60, .inl tx))]] : List va_W).flatten H := zf_sub hP [0, 2] rfl
  have hDc : va_D A ([[(h0, .inr (9, [.int th, .ref k1, .int sd, .ref k2, .ref k3, .int ln, .int at0, .int pt, .int mi, .int nu, .long ha]))], [(k3, .inl (E.2 0, 60, .inl tx))]] : List va_W).flatten := zf_subD hD [0, 2] (by decide) rfl
  refine z_mut (Sc := [[(h0, .inr (9, [.int th, .ref k1, .int sd, .ref k2, .ref k3, .int ln, .int at0, .int pt, .int mi, .int nu, .long ha]))], [(k3, .inl (E.2 0, 60, .inl tx))]]) (Sr := [[(k1, .inl (E.2 0, 1160, .inl sv))]]) (W1 := [[(h0, .inr (9, [.int th, .ref k1, .int sd, .ref k2, .ref k3, .int ln, .int (nI (m_IT tx n pt mi nu).2.1), .int ((m_IT tx n pt mi nu).2.2.1), .int ((m_IT tx n pt mi nu).2.2.2.1), .int ((m_IT tx n pt mi nu).2.2.2.2), .long ha]))], [(k3, .inl (E.2 0, 60, .inl tx))]]) (va_runV (As := []) (rest := [.ref h0]) ⟨hx, hb, hml, hown, hts⟩ (c_X10_isTripText l E h0 k1 k2 k3 th sd ln at0 pt mi nu ha tx n hln hn H.size) (cwV 0 hts gX10_run_X10_isTripText rfl rfl rfl (by decide +kernel) ⟨Nat.le_of_ble_eq_true rfl, Nat.le_of_ble_eq_true rfl⟩) ⟨zP.blind, va_recv hK.1 hPc (ci := 9) (q0 := 0) rfl rfl, z_pre hK hPc hDc⟩ rfl rfl hl.1 rfl (lv_room (Nat.le_of_ble_eq_true rfl)) dX10_run_2 ⟨Nat.le_of_ble_eq_true rfl, Nat.le_of_ble_eq_true rfl⟩) hP hD hS hA [0, 2] [1] rfl rfl (by decide) (by decide) (fun H locs hP hD hS => ?_)
  have hP : va_P E.1 vwCl ([[(k1, .inl (E.2 0, 1160, .inl sv))], [(h0, .inr (9, [.int th, .ref k1, .int sd, .ref k2, .ref k3, .int ln, .int (nI (m_IT tx n pt mi nu).2.1), .int ((m_IT tx n pt mi nu).2.2.1), .int ((m_IT tx n pt mi nu).2.2.2.1), .int ((m_IT tx n pt mi nu).2.2.2.2), .long ha]))], [(k3, .inl (E.2 0, 60, .inl tx))]] : List va_W).flatten H := hP
  have hD : va_D A ([[(k1, .inl (E.2 0, 1160, .inl sv))], [(h0, .inr (9, [.int th, .ref k1, .int sd, .ref k2, .ref k3, .int ln, .int (nI (m_IT tx n pt mi nu).2.1), .int ((m_IT tx n pt mi nu).2.2.1), .int ((m_IT tx n pt mi nu).2.2.2.1), .int ((m_IT tx n pt mi nu).2.2.2.2), .long ha]))], [(k3, .inl (E.2 0, 60, .inl tx))]] : List va_W).flatten := hD
  refine W.eq (g2 := F0 Mi 5 ls [.int (m_IT tx n pt mi nu).1, .ref h0]) rfl ?_
  refine lv_if_eq (tgt := 12) hx hb dX10_run_5 (by decide) (fun _ => ?_) (fun h9 => absurd (hok) h9)
  refine lv_iconst (v := 1) hx hb dX10_run_12 (by decide) ?_
  have hPc : va_P E.1 vwCl ([[(h0, .inr (9, [.int th, .ref k1, .int sd, .ref k2, .ref k3, .int ln, .int (nI (m_IT tx n pt mi nu).2.1), .int ((m_IT tx n pt mi nu).2.2.1), .int ((m_IT tx n pt mi nu).2.2.2.1), .int ((m_IT tx n pt mi nu).2.2.2.2), .long ha]))]] : List va_W).flatten H := zf_sub hP [1] rfl
  have hDc : va_D A ([[(h0, .inr (9, [.int th, .ref k1, .int sd, .ref k2, .ref k3, .int ln, .int (nI (m_IT tx n pt mi nu).2.1), .int ((m_IT tx n pt mi nu).2.2.1), .int ((m_IT tx n pt mi nu).2.2.2.1), .int ((m_IT tx n pt mi nu).2.2.2.2), .long ha]))]] : List va_W).flatten := zf_subD hD [1] (by decide) rfl
  refine z_mut (Sc := [[(h0, .inr (9, [.int th, .ref k1, .int sd, .ref k2, .ref k3, .int ln, .int (nI (m_IT tx n pt mi nu).2.1), .int ((m_IT tx n pt mi nu).2.2.1), .int ((m_IT tx n pt mi nu).2.2.2.1), .int ((m_IT tx n pt mi nu).2.2.2.2), .long ha]))]]) (Sr := [[(k1, .inl (E.2 0, 1160, .inl sv))], [(k3, .inl (E.2 0, 60, .inl tx))]]) (W1 := [[(h0, .inr (9, [.int 1, .ref k1, .int sd, .ref k2, .ref k3, .int ln, .int (nI (m_IT tx n pt mi nu).2.1), .int ((m_IT tx n pt mi nu).2.2.1), .int ((m_IT tx n pt mi nu).2.2.2.1), .int ((m_IT tx n pt mi nu).2.2.2.2), .long ha]))]]) (va_runV (As := [.int 1]) (rest := []) ⟨hx, hb, hml, hown, hts⟩ (c_X10_holds l E h0 k1 k2 k3 th sd ln (nI (m_IT tx n pt mi nu).2.1) ((m_IT tx n pt mi nu).2.2.1) ((m_IT tx n pt mi nu).2.2.2.1) ((m_IT tx n pt mi nu).2.2.2.2) ha 1 H.size) (cwV 1 hts gX10_run_X10_holds rfl rfl rfl (by decide +kernel) ⟨Nat.le_of_ble_eq_true rfl, Nat.le_of_ble_eq_true rfl⟩) ⟨zP.blind, va_recv hK.1 hPc (ci := 9) (q0 := 0) rfl rfl, z_pre hK hPc hDc⟩ rfl rfl hl.1 rfl (lv_room (Nat.le_of_ble_eq_true rfl)) dX10_run_13 ⟨Nat.le_of_ble_eq_true rfl, Nat.le_of_ble_eq_true rfl⟩) hP hD hS hA [1] [0, 2] rfl rfl (by decide) (by decide) (fun H locs hP hD hS => ?_)
  have hP : va_P E.1 vwCl ([[(k1, .inl (E.2 0, 1160, .inl sv))], [(k3, .inl (E.2 0, 60, .inl tx))], [(h0, .inr (9, [.int 1, .ref k1, .int sd, .ref k2, .ref k3, .int ln, .int (nI (m_IT tx n pt mi nu).2.1), .int ((m_IT tx n pt mi nu).2.2.1), .int ((m_IT tx n pt mi nu).2.2.2.1), .int ((m_IT tx n pt mi nu).2.2.2.2), .long ha]))]] : List va_W).flatten H := hP
  have hD : va_D A ([[(k1, .inl (E.2 0, 1160, .inl sv))], [(k3, .inl (E.2 0, 60, .inl tx))], [(h0, .inr (9, [.int 1, .ref k1, .int sd, .ref k2, .ref k3, .int ln, .int (nI (m_IT tx n pt mi nu).2.1), .int ((m_IT tx n pt mi nu).2.2.1), .int ((m_IT tx n pt mi nu).2.2.2.1), .int ((m_IT tx n pt mi nu).2.2.2.2), .long ha]))]] : List va_W).flatten := hD
  refine W.eq (g2 := F0 Mi 16 ls [.int (m_z01 1)]) rfl ?_
  refine lv_if_ne (tgt := 21) hx hb dX10_run_16 (by decide) (fun h9 => absurd h9 ((by decide))) (fun _ => ?_)
  refine lv_iconst (v := 0) hx hb dX10_run_19 (by decide) ?_
  have hP : va_P E.1 vwCl ([[(h0, .inr (9, [.int 1, .ref k1, .int sd, .ref k2, .ref k3, .int ln, .int (nI (m_IT tx n pt mi nu).2.1), .int ((m_IT tx n pt mi nu).2.2.1), .int ((m_IT tx n pt mi nu).2.2.2.1), .int ((m_IT tx n pt mi nu).2.2.2.2), .long ha]))], [(k1, .inl (E.2 0, 1160, .inl sv))], [(k3, .inl (E.2 0, 60, .inl tx))]] : List va_W).flatten H := zf_sub hP [2, 0, 1] rfl
  have hD : va_D A ([[(h0, .inr (9, [.int 1, .ref k1, .int sd, .ref k2, .ref k3, .int ln, .int (nI (m_IT tx n pt mi nu).2.1), .int ((m_IT tx n pt mi nu).2.2.1), .int ((m_IT tx n pt mi nu).2.2.2.1), .int ((m_IT tx n pt mi nu).2.2.2.2), .long ha]))], [(k1, .inl (E.2 0, 1160, .inl sv))], [(k3, .inl (E.2 0, 60, .inl tx))]] : List va_W).flatten := zf_subD hD [2, 0, 1] (by decide) rfl
  exact W.iret (v := 0) hx hb hr (z_end hP hD hS rfl) hS.2.2 dX10_run_20 hlocks

set_option maxHeartbeats 4000000 in
set_option maxRecDepth 100000 in
theorem c_X10_run_y (l : Launch) (E : zE) (h0 k1 k2 k3 : Nat) (th sd ln at0 pt mi nu : Int32) (ha : Int64) (sv : Nat → Int32) (d : Nat) (hsd : sd = nI d) (hd : d ≤ 6) (hz : z_ok sv) (tx : Nat → Int32) (n : Nat) (hln : ln = nI n) (hn : n ≤ 60) (hok : (m_IT tx n pt mi nu).1 = 1) : zM l yX10_run wsX10_run ({ frames := 6, cells := 0, slots := 0, locals := 132 }) E [.ref h0] ([[(h0, .inr (9, [.int th, .ref k1, .int sd, .ref k2, .ref k3, .int ln, .int at0, .int pt, .int mi, .int nu, .long ha]))], [(k1, .inl (E.2 0, 1160, .inl sv))], [(k3, .inl (E.2 0, 60, .inl tx))]] : List va_W).flatten (some (.int (m_std ((m_goM tx n 61 0 (m_IT tx n pt mi nu).2.2.1 (m_IT tx n pt mi nu).2.2.2.1 (m_IT tx n pt mi nu).2.2.2.2 (m_svA sv d)).2 0) - m_std ((m_goM tx n 61 0 (m_IT tx n pt mi nu).2.2.1 (m_IT tx n pt mi nu).2.2.2.1 (m_IT tx n pt mi nu).2.2.2.2 (m_svA sv d)).2 1)))) ([[(h0, .inr (9, [.int 0, .ref k1, .int (nI (m_svC d)), .ref k2, .ref k3, .int 0, .int (nI (m_goM tx n 61 0 (m_IT tx n pt mi nu).2.2.1 (m_IT tx n pt mi nu).2.2.2.1 (m_IT tx n pt mi nu).2.2.2.2 (m_svA sv d)).1.1), .int ((m_goM tx n 61 0 (m_IT tx n pt mi nu).2.2.1 (m_IT tx n pt mi nu).2.2.2.1 (m_IT tx n pt mi nu).2.2.2.2 (m_svA sv d)).1.2.1), .int ((m_goM tx n 61 0 (m_IT tx n pt mi nu).2.2.1 (m_IT tx n pt mi nu).2.2.2.1 (m_IT tx n pt mi nu).2.2.2.2 (m_svA sv d)).1.2.2.1), .int ((m_goM tx n 61 0 (m_IT tx n pt mi nu).2.2.1 (m_IT tx n pt mi nu).2.2.2.1 (m_IT tx n pt mi nu).2.2.2.2 (m_svA sv d)).1.2.2.2), .long ha]))], [(k1, .inl (E.2 0, 1160, .inl ((m_goM tx n 61 0 (m_IT tx n pt mi nu).2.2.1 (m_IT tx n pt mi nu).2.2.2.1 (m_IT tx n pt mi nu).2.2.2.2 (m_svA sv d)).2)))], [(k3, .inl (E.2 0, 60, .inl tx))]] : List va_W).flatten 0 0 := by
  refine z_start (cc := cX10_run) (maxL := 1) (ret := (some .int)) (by decide) rfl (Nat.le_of_ble_eq_true rfl) ?_
  intro Pg En s Mi below meth Cd A hx hb hr hts hown hlocks hin hml hA H hH hP hK hD hS ls hl
  have hl : lv_has ls 1 [(0, .ref h0)] := hl
  have hi_X10 : ∀ w ∈ wsX100, w ∈ wsX10_run := by decide +kernel
  have LOOP_30 : ∀ (kz : Nat) (i : Nat) (y pt1 mi1 nu1 : Int32) (sv1 : Nat → Int32), 60 < i + kz → i ≤ n → y = nI i → (m_goM tx n 61 0 (m_IT tx n pt mi nu).2.2.1 (m_IT tx n pt mi nu).2.2.2.1 (m_IT tx n pt mi nu).2.2.2.2 (m_svA sv d)) = m_goM tx n kz i pt1 mi1 nu1 sv1 → z_ok sv1 →  ∀ (H : Heap) (locs : List Loc), va_P E.1 vwCl ([[(h0, .inr (9, [.int 0, .ref k1, .int (nI (m_svC d)), .ref k2, .ref k3, .int ln, .int y, .int pt1, .int mi1, .int nu1, .long ha]))], [(k1, .inl (E.2 0, 1160, .inl sv1))], [(k3, .inl (E.2 0, 60, .inl tx))]] : List va_W).flatten H → va_D A ([[(h0, .inr (9, [.int 0, .ref k1, .int (nI (m_svC d)), .ref k2, .ref k3, .int ln, .int y, .int pt1, .int mi1, .int nu1, .long ha]))], [(k1, .inl (E.2 0, 1160, .inl sv1))], [(k3, .inl (E.2 0, 60, .inl tx))]] : List va_W).flatten → va_S A s.heap H locs → ∀ (ls : Array Slot), lv_has ls 1 [(0, .ref h0)] → W Pg l En ({ frames := 6, cells := 0, slots := 0, locals := 132 } : Room) s Mi ([.ref h0] : List Value).toArray below meth Cd H locs 0 0 (MQ below (zQ (some (.int (m_std ((m_goM tx n 61 0 (m_IT tx n pt mi nu).2.2.1 (m_IT tx n pt mi nu).2.2.2.1 (m_IT tx n pt mi nu).2.2.2.2 (m_svA sv d)).2 0) - m_std ((m_goM tx n 61 0 (m_IT tx n pt mi nu).2.2.1 (m_IT tx n pt mi nu).2.2.2.1 (m_IT tx n pt mi nu).2.2.2.2 (m_svA sv d)).2 1)))) (zB E ([[(h0, .inr (9, [.int 0, .ref k1, .int (nI (m_svC d)), .ref k2, .ref k3, .int 0, .int (nI (m_goM tx n 61 0 (m_IT tx n pt mi nu).2.2.1 (m_IT tx n pt mi nu).2.2.2.1 (m_IT tx n pt mi nu).2.2.2.2 (m_svA sv d)).1.1), .int ((m_goM tx n 61 0 (m_IT tx n pt mi nu).2.2.1 (m_IT tx n pt mi nu).2.2.2.1 (m_IT tx n pt mi nu).2.2.2.2 (m_svA sv d)).1.2.1), .int ((m_goM tx n 61 0 (m_IT tx n pt mi nu).2.2.1 (m_IT tx n pt mi nu).2.2.2.1 (m_IT tx n pt mi nu).2.2.2.2 (m_svA sv d)).1.2.2.1), .int ((m_goM tx n 61 0 (m_IT tx n pt mi nu).2.2.1 (m_IT tx n pt mi nu).2.2.2.1 (m_IT tx n pt mi nu).2.2.2.2 (m_svA sv d)).1.2.2.2), .long ha]))], [(k1, .inl (E.2 0, 1160, .inl ((m_goM tx n 61 0 (m_IT tx n pt mi nu).2.2.1 (m_IT tx n pt mi nu).2.2.2.1 (m_IT tx n pt mi nu).2.2.2.2 (m_svA sv d)).2)))], [(k3, .inl (E.2 0, 60, .inl tx))]] : List va_W).flatten A) A) ([.ref h0] : List Value).toArray s 0 0 A) (F0 Mi 30 ls []) := by
    intro kz
    induction kz with
    | zero => intro i y pt1 mi1 nu1 sv1 h1 hi hy h5 hz1; exact absurd h1 (by omega)
    | succ kz ih =>
      intro i y pt1 mi1 nu1 sv1 h1 hi hy h5 hz1 H locs hP hD hS ls hl
      refine lv_aload_n hx hb dX10_run_30 rfl (lv_at hl 0 rfl) ?_
      have hPc : va_P E.1 vwCl ([[(h0, .inr (9, [.int 0, .ref k1, .int (nI (m_svC d)), .ref k2, .ref k3, .int ln, .int y, .int pt1, .int mi1, .int nu1, .long ha]))], [(k3, .inl (E.2 0, 60, .inl tx))]] : List va_W).flatten H := zf_sub hP [0, 2] rfl
      have hDc : va_D A ([[(h0, .inr (9, [.int 0, .ref k1, .int (nI (m_svC d)), .ref k2, .ref k3, .int ln, .int y, .int pt1, .int mi1, .int nu1, .long ha]))], [(k3, .inl (E.2 0, 60, .inl tx))]] : List va_W).flatten := zf_subD hD [0, 2] (by decide) rfl
      refine z_mut (Sc := [[(h0, .inr (9, [.int 0, .ref k1, .int (nI (m_svC d)), .ref k2, .ref k3, .int ln, .int y, .int pt1, .int mi1, .int nu1, .long ha]))], [(k3, .inl (E.2 0, 60, .inl tx))]]) (Sr := [[(k1, .inl (E.2 0, 1160, .inl sv1))]]) (W1 := [[(h0, .inr (9, [.int 0, .ref k1, .int (nI (m_svC d)), .ref k2, .ref k3, .int ln, .int (nI (m_rp tx n i mi1 nu1).2.1), .int ((m_rp tx n i mi1 nu1).2.2.1), .int ((m_rp tx n i mi1 nu1).2.2.2.1), .int ((m_rp tx n i mi1 nu1).2.2.2.2), .long ha]))], [(k3, .inl (E.2 0, 60, .inl tx))]]) (va_runV (As := []) (rest := []) ⟨hx, hb, hml, hown, hts⟩ (c_X10_readsPart l E h0 k1 k2 k3 0 (nI (m_svC d)) ln y pt1 mi1 nu1 ha tx n i hln hn hy hi H.size) (cwV 0 hts gX10_run_X10_readsPart rfl rfl rfl (by decide +kernel) ⟨Nat.le_of_ble_eq_true rfl, Nat.le_of_ble_eq_true rfl⟩) ⟨zP.blind, va_recv hK.1 hPc (ci := 9) (q0 := 0) rfl rfl, z_pre hK hPc hDc⟩ rfl rfl hl.1 rfl (lv_room (Nat.le_of_ble_eq_true rfl)) dX10_run_31 ⟨Nat.le_of_ble_eq_true rfl, Nat.le_of_ble_eq_true rfl⟩) hP hD hS hA [0, 2] [1] rfl rfl (by decide) (by decide) (fun H locs hP hD hS => ?_)
      have hP : va_P E.1 vwCl ([[(k1, .inl (E.2 0, 1160, .inl sv1))], [(h0, .inr (9, [.int 0, .ref k1, .int (nI (m_svC d)), .ref k2, .ref k3, .int ln, .int (nI (m_rp tx n i mi1 nu1).2.1), .int ((m_rp tx n i mi1 nu1).2.2.1), .int ((m_rp tx n i mi1 nu1).2.2.2.1), .int ((m_rp tx n i mi1 nu1).2.2.2.2), .long ha]))], [(k3, .inl (E.2 0, 60, .inl tx))]] : List va_W).flatten H := hP
      have hD : va_D A ([[(k1, .inl (E.2 0, 1160, .inl sv1))], [(h0, .inr (9, [.int 0, .ref k1, .int (nI (m_svC d)), .ref k2, .ref k3, .int ln, .int (nI (m_rp tx n i mi1 nu1).2.1), .int ((m_rp tx n i mi1 nu1).2.2.1), .int ((m_rp tx n i mi1 nu1).2.2.2.1), .int ((m_rp tx n i mi1 nu1).2.2.2.2), .long ha]))], [(k3, .inl (E.2 0, 60, .inl tx))]] : List va_W).flatten := hD
      refine W.eq (g2 := F0 Mi 34 ls [.int (m_rp tx n i mi1 nu1).1]) rfl ?_
      have hrn : (m_rp tx n i mi1 nu1).2.1 ≤ n := (m_rp_le hi).1
      refine lv_if_eq (tgt := 51) hx hb dX10_run_34 (by decide) (fun c_34 => ?_) (fun c_34 => ?_)
      · have eG : (m_goM tx n 61 0 (m_IT tx n pt mi nu).2.2.1 (m_IT tx n pt mi nu).2.2.2.1 (m_IT tx n pt mi nu).2.2.2.2 (m_svA sv d)) = ((m_rp tx n i mi1 nu1).2, sv1) := (by rw [h5, m_goM, if_pos c_34])
        refine lv_aload_n hx hb dX10_run_51 rfl (lv_at hl 0 rfl) ?_
        refine lv_iconst (v := 0) hx hb dX10_run_52 (by decide) ?_
        refine va_put (D := E.1) (ci := 9) (v := .int 0) (ty := .int) (C := RX10) (T := TX10) (N := 11) hx hb hts hi_X10 tyX10 tyX10_ok nmX10 hown hK.1 hP hD hS 1 rfl rfl 5 (by decide) (hts (.fieldLink RX10 112 "AltimeterWatchModel" "length" "I") (by decide +kernel)) (fun _ h9 => h9) rfl (by decide +kernel) rfl rfl (Nat.le_of_ble_eq_true rfl) dX10_run_53 (fun H locs hP hD hS => ?_)
        have hP : va_P E.1 vwCl ([[(k1, .inl (E.2 0, 1160, .inl sv1))], [(h0, .inr (9, [.int 0, .ref k1, .int (nI (m_svC d)), .ref k2, .ref k3, .int 0, .int (nI (m_rp tx n i mi1 nu1).2.1), .int ((m_rp tx n i mi1 nu1).2.2.1), .int ((m_rp tx n i mi1 nu1).2.2.2.1), .int ((m_rp tx n i mi1 nu1).2.2.2.2), .long ha]))], [(k3, .inl (E.2 0, 60, .inl tx))]] : List va_W).flatten H := hP
        have hD : va_D A ([[(k1, .inl (E.2 0, 1160, .inl sv1))], [(h0, .inr (9, [.int 0, .ref k1, .int (nI (m_svC d)), .ref k2, .ref k3, .int 0, .int (nI (m_rp tx n i mi1 nu1).2.1), .int ((m_rp tx n i mi1 nu1).2.2.1), .int ((m_rp tx n i mi1 nu1).2.2.2.1), .int ((m_rp tx n i mi1 nu1).2.2.2.2), .long ha]))], [(k3, .inl (E.2 0, 60, .inl tx))]] : List va_W).flatten := hD
        refine lv_aload_n hx hb dX10_run_56 rfl (lv_at hl 0 rfl) ?_
        refine lv_iconst (v := 0) hx hb dX10_run_57 (by decide) ?_
        have hPc : va_P E.1 vwCl ([[(h0, .inr (9, [.int 0, .ref k1, .int (nI (m_svC d)), .ref k2, .ref k3, .int 0, .int (nI (m_rp tx n i mi1 nu1).2.1), .int ((m_rp tx n i mi1 nu1).2.2.1), .int ((m_rp tx n i mi1 nu1).2.2.2.1), .int ((m_rp tx n i mi1 nu1).2.2.2.2), .long ha]))], [(k1, .inl (E.2 0, 1160, .inl sv1))]] : List va_W).flatten H := zf_sub hP [1, 0] rfl
        refine z_rdv (va_runV (As := [.int 0]) (rest := []) ⟨hx, hb, hml, hown, hts⟩ (c_X10_altitudeAt l E h0 k1 k2 k3 0 (nI (m_svC d)) 0 (nI (m_rp tx n i mi1 nu1).2.1) ((m_rp tx n i mi1 nu1).2.2.1) ((m_rp tx n i mi1 nu1).2.2.2.1) ((m_rp tx n i mi1 nu1).2.2.2.2) ha 0 0 rfl (by omega) sv1) (cwV 1 hts gX10_run_X10_altitudeAt rfl rfl rfl (by decide +kernel) ⟨Nat.le_of_ble_eq_true rfl, Nat.le_of_ble_eq_true rfl⟩) ⟨zPr.blind, va_recv hK.1 hPc (ci := 9) (q0 := 0) rfl rfl, z_prer hK hPc⟩ rfl rfl hl.1 rfl (lv_room (Nat.le_of_ble_eq_true rfl)) dX10_run_58 ⟨Nat.le_of_ble_eq_true rfl, Nat.le_of_ble_eq_true rfl⟩) ?_
        refine W.eq (g2 := F0 Mi 61 ls [.int (m_std (sv1 (0 + 0)) - m_std (sv1 (0 + 1)))]) rfl ?_
        refine z_topi (y := m_std ((m_goM tx n 61 0 (m_IT tx n pt mi nu).2.2.1 (m_IT tx n pt mi nu).2.2.2.1 (m_IT tx n pt mi nu).2.2.2.2 (m_svA sv d)).2 0) - m_std ((m_goM tx n 61 0 (m_IT tx n pt mi nu).2.2.1 (m_IT tx n pt mi nu).2.2.2.1 (m_IT tx n pt mi nu).2.2.2.2 (m_svA sv d)).2 1)) (by rw [eG]) ?_
        have hP : va_P E.1 vwCl ([[(h0, .inr (9, [.int 0, .ref k1, .int (nI (m_svC d)), .ref k2, .ref k3, .int 0, .int (nI (m_rp tx n i mi1 nu1).2.1), .int ((m_rp tx n i mi1 nu1).2.2.1), .int ((m_rp tx n i mi1 nu1).2.2.2.1), .int ((m_rp tx n i mi1 nu1).2.2.2.2), .long ha]))], [(k1, .inl (E.2 0, 1160, .inl sv1))], [(k3, .inl (E.2 0, 60, .inl tx))]] : List va_W).flatten H := zf_sub hP [1, 0, 2] rfl
        have hD : va_D A ([[(h0, .inr (9, [.int 0, .ref k1, .int (nI (m_svC d)), .ref k2, .ref k3, .int 0, .int (nI (m_rp tx n i mi1 nu1).2.1), .int ((m_rp tx n i mi1 nu1).2.2.1), .int ((m_rp tx n i mi1 nu1).2.2.2.1), .int ((m_rp tx n i mi1 nu1).2.2.2.2), .long ha]))], [(k1, .inl (E.2 0, 1160, .inl sv1))], [(k3, .inl (E.2 0, 60, .inl tx))]] : List va_W).flatten := zf_subD hD [1, 0, 2] (by decide) rfl
        exact W.iret (v := m_std ((m_goM tx n 61 0 (m_IT tx n pt mi nu).2.2.1 (m_IT tx n pt mi nu).2.2.2.1 (m_IT tx n pt mi nu).2.2.2.2 (m_svA sv d)).2 0) - m_std ((m_goM tx n 61 0 (m_IT tx n pt mi nu).2.2.1 (m_IT tx n pt mi nu).2.2.2.1 (m_IT tx n pt mi nu).2.2.2.2 (m_svA sv d)).2 1)) hx hb hr (z_end hP hD hS (by rw [eG])) hS.2.2 dX10_run_61 hlocks
      · refine lv_aload_n hx hb dX10_run_37 rfl (lv_at hl 0 rfl) ?_
        have hPc : va_P E.1 vwCl ([[(h0, .inr (9, [.int 0, .ref k1, .int (nI (m_svC d)), .ref k2, .ref k3, .int ln, .int (nI (m_rp tx n i mi1 nu1).2.1), .int ((m_rp tx n i mi1 nu1).2.2.1), .int ((m_rp tx n i mi1 nu1).2.2.2.1), .int ((m_rp tx n i mi1 nu1).2.2.2.2), .long ha]))], [(k1, .inl (E.2 0, 1160, .inl sv1))]] : List va_W).flatten H := zf_sub hP [1, 0] rfl
        have hDc : va_D A ([[(h0, .inr (9, [.int 0, .ref k1, .int (nI (m_svC d)), .ref k2, .ref k3, .int ln, .int (nI (m_rp tx n i mi1 nu1).2.1), .int ((m_rp tx n i mi1 nu1).2.2.1), .int ((m_rp tx n i mi1 nu1).2.2.2.1), .int ((m_rp tx n i mi1 nu1).2.2.2.2), .long ha]))], [(k1, .inl (E.2 0, 1160, .inl sv1))]] : List va_W).flatten := zf_subD hD [1, 0] (by decide) rfl
        refine z_mut (Sc := [[(h0, .inr (9, [.int 0, .ref k1, .int (nI (m_svC d)), .ref k2, .ref k3, .int ln, .int (nI (m_rp tx n i mi1 nu1).2.1), .int ((m_rp tx n i mi1 nu1).2.2.1), .int ((m_rp tx n i mi1 nu1).2.2.2.1), .int ((m_rp tx n i mi1 nu1).2.2.2.2), .long ha]))], [(k1, .inl (E.2 0, 1160, .inl sv1))]]) (Sr := [[(k3, .inl (E.2 0, 60, .inl tx))]]) (W1 := [[(h0, .inr (9, [.int 0, .ref k1, .int (nI (m_svC d)), .ref k2, .ref k3, .int ln, .int (nI (m_rp tx n i mi1 nu1).2.1), .int ((m_rp tx n i mi1 nu1).2.2.1), .int ((m_rp tx n i mi1 nu1).2.2.2.1), .int ((m_rp tx n i mi1 nu1).2.2.2.2), .long ha]))], [(k1, .inl (E.2 0, 1160, .inl (m_doM sv1 ((m_rp tx n i mi1 nu1).2.2.1) ((m_rp tx n i mi1 nu1).2.2.2.1) ((m_rp tx n i mi1 nu1).2.2.2.2))))]]) (va_runV (As := []) (rest := []) ⟨hx, hb, hml, hown, hts⟩ (c_X10_does l E h0 k1 k2 k3 0 (nI (m_svC d)) ln (nI (m_rp tx n i mi1 nu1).2.1) ((m_rp tx n i mi1 nu1).2.2.1) ((m_rp tx n i mi1 nu1).2.2.2.1) ((m_rp tx n i mi1 nu1).2.2.2.2) ha sv1 hz1 (m_rp_mi c_34) H.size) (cwV 0 hts gX10_run_X10_does rfl rfl rfl (by decide +kernel) ⟨Nat.le_of_ble_eq_true rfl, Nat.le_of_ble_eq_true rfl⟩) ⟨zP.blind, va_recv hK.1 hPc (ci := 9) (q0 := 0) rfl rfl, z_pre hK hPc hDc⟩ rfl rfl hl.1 rfl (lv_room (Nat.le_of_ble_eq_true rfl)) dX10_run_38 ⟨Nat.le_of_ble_eq_true rfl, Nat.le_of_ble_eq_true rfl⟩) hP hD hS hA [1, 0] [2] rfl rfl (by decide) (by decide) (fun H locs hP hD hS => ?_)
        have hP : va_P E.1 vwCl ([[(k3, .inl (E.2 0, 60, .inl tx))], [(h0, .inr (9, [.int 0, .ref k1, .int (nI (m_svC d)), .ref k2, .ref k3, .int ln, .int (nI (m_rp tx n i mi1 nu1).2.1), .int ((m_rp tx n i mi1 nu1).2.2.1), .int ((m_rp tx n i mi1 nu1).2.2.2.1), .int ((m_rp tx n i mi1 nu1).2.2.2.2), .long ha]))], [(k1, .inl (E.2 0, 1160, .inl (m_doM sv1 ((m_rp tx n i mi1 nu1).2.2.1) ((m_rp tx n i mi1 nu1).2.2.2.1) ((m_rp tx n i mi1 nu1).2.2.2.2))))]] : List va_W).flatten H := hP
        have hD : va_D A ([[(k3, .inl (E.2 0, 60, .inl tx))], [(h0, .inr (9, [.int 0, .ref k1, .int (nI (m_svC d)), .ref k2, .ref k3, .int ln, .int (nI (m_rp tx n i mi1 nu1).2.1), .int ((m_rp tx n i mi1 nu1).2.2.1), .int ((m_rp tx n i mi1 nu1).2.2.2.1), .int ((m_rp tx n i mi1 nu1).2.2.2.2), .long ha]))], [(k1, .inl (E.2 0, 1160, .inl (m_doM sv1 ((m_rp tx n i mi1 nu1).2.2.1) ((m_rp tx n i mi1 nu1).2.2.2.1) ((m_rp tx n i mi1 nu1).2.2.2.2))))]] : List va_W).flatten := hD
        refine W.eq (g2 := F0 Mi 41 ls []) rfl ?_
        refine lv_aload_n hx hb dX10_run_41 rfl (lv_at hl 0 rfl) ?_
        refine lv_bipush (v := 59) hx hb dX10_run_42 (by decide) ?_
        have hPc : va_P E.1 vwCl ([[(h0, .inr (9, [.int 0, .ref k1, .int (nI (m_svC d)), .ref k2, .ref k3, .int ln, .int (nI (m_rp tx n i mi1 nu1).2.1), .int ((m_rp tx n i mi1 nu1).2.2.1), .int ((m_rp tx n i mi1 nu1).2.2.2.1), .int ((m_rp tx n i mi1 nu1).2.2.2.2), .long ha]))], [(k3, .inl (E.2 0, 60, .inl tx))]] : List va_W).flatten H := zf_sub hP [1, 0] rfl
        have hDc : va_D A ([[(h0, .inr (9, [.int 0, .ref k1, .int (nI (m_svC d)), .ref k2, .ref k3, .int ln, .int (nI (m_rp tx n i mi1 nu1).2.1), .int ((m_rp tx n i mi1 nu1).2.2.1), .int ((m_rp tx n i mi1 nu1).2.2.2.1), .int ((m_rp tx n i mi1 nu1).2.2.2.2), .long ha]))], [(k3, .inl (E.2 0, 60, .inl tx))]] : List va_W).flatten := zf_subD hD [1, 0] (by decide) rfl
        refine z_mut (Sc := [[(h0, .inr (9, [.int 0, .ref k1, .int (nI (m_svC d)), .ref k2, .ref k3, .int ln, .int (nI (m_rp tx n i mi1 nu1).2.1), .int ((m_rp tx n i mi1 nu1).2.2.1), .int ((m_rp tx n i mi1 nu1).2.2.2.1), .int ((m_rp tx n i mi1 nu1).2.2.2.2), .long ha]))], [(k3, .inl (E.2 0, 60, .inl tx))]]) (Sr := [[(k1, .inl (E.2 0, 1160, .inl (m_doM sv1 ((m_rp tx n i mi1 nu1).2.2.1) ((m_rp tx n i mi1 nu1).2.2.2.1) ((m_rp tx n i mi1 nu1).2.2.2.2))))]]) (W1 := [[(h0, .inr (9, [.int 0, .ref k1, .int (nI (m_svC d)), .ref k2, .ref k3, .int ln, .int (nI (m_tkN tx n (m_rp tx n i mi1 nu1).2.1 59)), .int ((m_rp tx n i mi1 nu1).2.2.1), .int ((m_rp tx n i mi1 nu1).2.2.2.1), .int ((m_rp tx n i mi1 nu1).2.2.2.2), .long ha]))], [(k3, .inl (E.2 0, 60, .inl tx))]]) (va_runV (As := [.int 59]) (rest := []) ⟨hx, hb, hml, hown, hts⟩ (c_X10_takes l E h0 k1 k2 k3 0 (nI (m_svC d)) ln (nI (m_rp tx n i mi1 nu1).2.1) ((m_rp tx n i mi1 nu1).2.2.1) ((m_rp tx n i mi1 nu1).2.2.2.1) ((m_rp tx n i mi1 nu1).2.2.2.2) ha tx n (m_rp tx n i mi1 nu1).2.1 hln hn rfl hrn 59 H.size) (cwV 1 hts gX10_run_X10_takes rfl rfl rfl (by decide +kernel) ⟨Nat.le_of_ble_eq_true rfl, Nat.le_of_ble_eq_true rfl⟩) ⟨zP.blind, va_recv hK.1 hPc (ci := 9) (q0 := 0) rfl rfl, z_pre hK hPc hDc⟩ rfl rfl hl.1 rfl (lv_room (Nat.le_of_ble_eq_true rfl)) dX10_run_44 ⟨Nat.le_of_ble_eq_true rfl, Nat.le_of_ble_eq_true rfl⟩) hP hD hS hA [1, 0] [2] rfl rfl (by decide) (by decide) (fun H locs hP hD hS => ?_)
        have hP : va_P E.1 vwCl ([[(k1, .inl (E.2 0, 1160, .inl (m_doM sv1 ((m_rp tx n i mi1 nu1).2.2.1) ((m_rp tx n i mi1 nu1).2.2.2.1) ((m_rp tx n i mi1 nu1).2.2.2.2))))], [(h0, .inr (9, [.int 0, .ref k1, .int (nI (m_svC d)), .ref k2, .ref k3, .int ln, .int (nI (m_tkN tx n (m_rp tx n i mi1 nu1).2.1 59)), .int ((m_rp tx n i mi1 nu1).2.2.1), .int ((m_rp tx n i mi1 nu1).2.2.2.1), .int ((m_rp tx n i mi1 nu1).2.2.2.2), .long ha]))], [(k3, .inl (E.2 0, 60, .inl tx))]] : List va_W).flatten H := hP
        have hD : va_D A ([[(k1, .inl (E.2 0, 1160, .inl (m_doM sv1 ((m_rp tx n i mi1 nu1).2.2.1) ((m_rp tx n i mi1 nu1).2.2.2.1) ((m_rp tx n i mi1 nu1).2.2.2.2))))], [(h0, .inr (9, [.int 0, .ref k1, .int (nI (m_svC d)), .ref k2, .ref k3, .int ln, .int (nI (m_tkN tx n (m_rp tx n i mi1 nu1).2.1 59)), .int ((m_rp tx n i mi1 nu1).2.2.1), .int ((m_rp tx n i mi1 nu1).2.2.2.1), .int ((m_rp tx n i mi1 nu1).2.2.2.2), .long ha]))], [(k3, .inl (E.2 0, 60, .inl tx))]] : List va_W).flatten := hD
        refine W.eq (g2 := F0 Mi 47 ls [.int (m_tkM tx n (m_rp tx n i mi1 nu1).2.1 59)]) rfl ?_
        refine lv_pop hx hb dX10_run_47 rfl ?_
        refine lv_goto (tgt := 30) hx hb dX10_run_48 (by decide) ?_
        have hgt : i < (m_rp tx n i mi1 nu1).2.1 := m_rp_lt hi c_34
        have htk := m_tkN_le (tx := tx) (x := 59) hrn (by decide)
        exact ih (m_tkN tx n (m_rp tx n i mi1 nu1).2.1 59) (nI (m_tkN tx n (m_rp tx n i mi1 nu1).2.1 59)) (m_rp tx n i mi1 nu1).2.2.1 (m_rp tx n i mi1 nu1).2.2.2.1 (m_rp tx n i mi1 nu1).2.2.2.2 (m_doM sv1 (m_rp tx n i mi1 nu1).2.2.1 (m_rp tx n i mi1 nu1).2.2.2.1 (m_rp tx n i mi1 nu1).2.2.2.2) (by omega) htk.1 rfl (by rw [h5, m_goM, if_neg c_34]) (z_ok_doM hz1) _ _ (zf_sub hP [1, 0, 2] rfl) (zf_subD hD [1, 0, 2] (by decide) rfl) hS ls (lv_sub hl [0] rfl)
  refine lv_aload_n hx hb dX10_run_0 rfl (lv_at hl 0 rfl) ?_
  refine lv_aload_n hx hb dX10_run_1 rfl (lv_at hl 0 rfl) ?_
  have hPc : va_P E.1 vwCl ([[(h0, .inr (9, [.int th, .ref k1, .int sd, .ref k2, .ref k3, .int ln, .int at0, .int pt, .int mi, .int nu, .long ha]))], [(k3, .inl (E.2 0, 60, .inl tx))]] : List va_W).flatten H := zf_sub hP [0, 2] rfl
  have hDc : va_D A ([[(h0, .inr (9, [.int th, .ref k1, .int sd, .ref k2, .ref k3, .int ln, .int at0, .int pt, .int mi, .int nu, .long ha]))], [(k3, .inl (E.2 0, 60, .inl tx))]] : List va_W).flatten := zf_subD hD [0, 2] (by decide) rfl
  refine z_mut (Sc := [[(h0, .inr (9, [.int th, .ref k1, .int sd, .ref k2, .ref k3, .int ln, .int at0, .int pt, .int mi, .int nu, .long ha]))], [(k3, .inl (E.2 0, 60, .inl tx))]]) (Sr := [[(k1, .inl (E.2 0, 1160, .inl sv))]]) (W1 := [[(h0, .inr (9, [.int th, .ref k1, .int sd, .ref k2, .ref k3, .int ln, .int (nI (m_IT tx n pt mi nu).2.1), .int ((m_IT tx n pt mi nu).2.2.1), .int ((m_IT tx n pt mi nu).2.2.2.1), .int ((m_IT tx n pt mi nu).2.2.2.2), .long ha]))], [(k3, .inl (E.2 0, 60, .inl tx))]]) (va_runV (As := []) (rest := [.ref h0]) ⟨hx, hb, hml, hown, hts⟩ (c_X10_isTripText l E h0 k1 k2 k3 th sd ln at0 pt mi nu ha tx n hln hn H.size) (cwV 0 hts gX10_run_X10_isTripText rfl rfl rfl (by decide +kernel) ⟨Nat.le_of_ble_eq_true rfl, Nat.le_of_ble_eq_true rfl⟩) ⟨zP.blind, va_recv hK.1 hPc (ci := 9) (q0 := 0) rfl rfl, z_pre hK hPc hDc⟩ rfl rfl hl.1 rfl (lv_room (Nat.le_of_ble_eq_true rfl)) dX10_run_2 ⟨Nat.le_of_ble_eq_true rfl, Nat.le_of_ble_eq_true rfl⟩) hP hD hS hA [0, 2] [1] rfl rfl (by decide) (by decide) (fun H locs hP hD hS => ?_)
  have hP : va_P E.1 vwCl ([[(k1, .inl (E.2 0, 1160, .inl sv))], [(h0, .inr (9, [.int th, .ref k1, .int sd, .ref k2, .ref k3, .int ln, .int (nI (m_IT tx n pt mi nu).2.1), .int ((m_IT tx n pt mi nu).2.2.1), .int ((m_IT tx n pt mi nu).2.2.2.1), .int ((m_IT tx n pt mi nu).2.2.2.2), .long ha]))], [(k3, .inl (E.2 0, 60, .inl tx))]] : List va_W).flatten H := hP
  have hD : va_D A ([[(k1, .inl (E.2 0, 1160, .inl sv))], [(h0, .inr (9, [.int th, .ref k1, .int sd, .ref k2, .ref k3, .int ln, .int (nI (m_IT tx n pt mi nu).2.1), .int ((m_IT tx n pt mi nu).2.2.1), .int ((m_IT tx n pt mi nu).2.2.2.1), .int ((m_IT tx n pt mi nu).2.2.2.2), .long ha]))], [(k3, .inl (E.2 0, 60, .inl tx))]] : List va_W).flatten := hD
  refine W.eq (g2 := F0 Mi 5 ls [.int (m_IT tx n pt mi nu).1, .ref h0]) rfl ?_
  refine lv_if_eq (tgt := 12) hx hb dX10_run_5 (by decide) (fun h9 => absurd h9 ((by rw [hok]; decide))) (fun _ => ?_)
  refine lv_iconst (v := 0) hx hb dX10_run_8 (by decide) ?_
  refine lv_goto (tgt := 13) hx hb dX10_run_9 (by decide) ?_
  have hPc : va_P E.1 vwCl ([[(h0, .inr (9, [.int th, .ref k1, .int sd, .ref k2, .ref k3, .int ln, .int (nI (m_IT tx n pt mi nu).2.1), .int ((m_IT tx n pt mi nu).2.2.1), .int ((m_IT tx n pt mi nu).2.2.2.1), .int ((m_IT tx n pt mi nu).2.2.2.2), .long ha]))]] : List va_W).flatten H := zf_sub hP [1] rfl
  have hDc : va_D A ([[(h0, .inr (9, [.int th, .ref k1, .int sd, .ref k2, .ref k3, .int ln, .int (nI (m_IT tx n pt mi nu).2.1), .int ((m_IT tx n pt mi nu).2.2.1), .int ((m_IT tx n pt mi nu).2.2.2.1), .int ((m_IT tx n pt mi nu).2.2.2.2), .long ha]))]] : List va_W).flatten := zf_subD hD [1] (by decide) rfl
  refine z_mut (Sc := [[(h0, .inr (9, [.int th, .ref k1, .int sd, .ref k2, .ref k3, .int ln, .int (nI (m_IT tx n pt mi nu).2.1), .int ((m_IT tx n pt mi nu).2.2.1), .int ((m_IT tx n pt mi nu).2.2.2.1), .int ((m_IT tx n pt mi nu).2.2.2.2), .long ha]))]]) (Sr := [[(k1, .inl (E.2 0, 1160, .inl sv))], [(k3, .inl (E.2 0, 60, .inl tx))]]) (W1 := [[(h0, .inr (9, [.int 0, .ref k1, .int sd, .ref k2, .ref k3, .int ln, .int (nI (m_IT tx n pt mi nu).2.1), .int ((m_IT tx n pt mi nu).2.2.1), .int ((m_IT tx n pt mi nu).2.2.2.1), .int ((m_IT tx n pt mi nu).2.2.2.2), .long ha]))]]) (va_runV (As := [.int 0]) (rest := []) ⟨hx, hb, hml, hown, hts⟩ (c_X10_holds l E h0 k1 k2 k3 th sd ln (nI (m_IT tx n pt mi nu).2.1) ((m_IT tx n pt mi nu).2.2.1) ((m_IT tx n pt mi nu).2.2.2.1) ((m_IT tx n pt mi nu).2.2.2.2) ha 0 H.size) (cwV 1 hts gX10_run_X10_holds rfl rfl rfl (by decide +kernel) ⟨Nat.le_of_ble_eq_true rfl, Nat.le_of_ble_eq_true rfl⟩) ⟨zP.blind, va_recv hK.1 hPc (ci := 9) (q0 := 0) rfl rfl, z_pre hK hPc hDc⟩ rfl rfl hl.1 rfl (lv_room (Nat.le_of_ble_eq_true rfl)) dX10_run_13 ⟨Nat.le_of_ble_eq_true rfl, Nat.le_of_ble_eq_true rfl⟩) hP hD hS hA [1] [0, 2] rfl rfl (by decide) (by decide) (fun H locs hP hD hS => ?_)
  have hP : va_P E.1 vwCl ([[(k1, .inl (E.2 0, 1160, .inl sv))], [(k3, .inl (E.2 0, 60, .inl tx))], [(h0, .inr (9, [.int 0, .ref k1, .int sd, .ref k2, .ref k3, .int ln, .int (nI (m_IT tx n pt mi nu).2.1), .int ((m_IT tx n pt mi nu).2.2.1), .int ((m_IT tx n pt mi nu).2.2.2.1), .int ((m_IT tx n pt mi nu).2.2.2.2), .long ha]))]] : List va_W).flatten H := hP
  have hD : va_D A ([[(k1, .inl (E.2 0, 1160, .inl sv))], [(k3, .inl (E.2 0, 60, .inl tx))], [(h0, .inr (9, [.int 0, .ref k1, .int sd, .ref k2, .ref k3, .int ln, .int (nI (m_IT tx n pt mi nu).2.1), .int ((m_IT tx n pt mi nu).2.2.1), .int ((m_IT tx n pt mi nu).2.2.2.1), .int ((m_IT tx n pt mi nu).2.2.2.2), .long ha]))]] : List va_W).flatten := hD
  refine W.eq (g2 := F0 Mi 16 ls [.int (m_z01 0)]) rfl ?_
  refine lv_if_ne (tgt := 21) hx hb dX10_run_16 (by decide) (fun _ => ?_) (fun h9 => absurd h9 ((by decide)))
  refine lv_aload_n hx hb dX10_run_21 rfl (lv_at hl 0 rfl) ?_
  have hPc : va_P E.1 vwCl ([[(h0, .inr (9, [.int 0, .ref k1, .int sd, .ref k2, .ref k3, .int ln, .int (nI (m_IT tx n pt mi nu).2.1), .int ((m_IT tx n pt mi nu).2.2.1), .int ((m_IT tx n pt mi nu).2.2.2.1), .int ((m_IT tx n pt mi nu).2.2.2.2), .long ha]))], [(k1, .inl (E.2 0, 1160, .inl sv))]] : List va_W).flatten H := zf_sub hP [2, 0] rfl
  have hDc : va_D A ([[(h0, .inr (9, [.int 0, .ref k1, .int sd, .ref k2, .ref k3, .int ln, .int (nI (m_IT tx n pt mi nu).2.1), .int ((m_IT tx n pt mi nu).2.2.1), .int ((m_IT tx n pt mi nu).2.2.2.1), .int ((m_IT tx n pt mi nu).2.2.2.2), .long ha]))], [(k1, .inl (E.2 0, 1160, .inl sv))]] : List va_W).flatten := zf_subD hD [2, 0] (by decide) rfl
  refine z_mut (Sc := [[(h0, .inr (9, [.int 0, .ref k1, .int sd, .ref k2, .ref k3, .int ln, .int (nI (m_IT tx n pt mi nu).2.1), .int ((m_IT tx n pt mi nu).2.2.1), .int ((m_IT tx n pt mi nu).2.2.2.1), .int ((m_IT tx n pt mi nu).2.2.2.2), .long ha]))], [(k1, .inl (E.2 0, 1160, .inl sv))]]) (Sr := [[(k3, .inl (E.2 0, 60, .inl tx))]]) (W1 := [[(h0, .inr (9, [.int 0, .ref k1, .int (nI (m_svC d)), .ref k2, .ref k3, .int ln, .int (nI (m_IT tx n pt mi nu).2.1), .int ((m_IT tx n pt mi nu).2.2.1), .int ((m_IT tx n pt mi nu).2.2.2.1), .int ((m_IT tx n pt mi nu).2.2.2.2), .long ha]))], [(k1, .inl (E.2 0, 1160, .inl (m_svA sv d)))]]) (va_runV (As := []) (rest := []) ⟨hx, hb, hml, hown, hts⟩ (c_X10_save l E h0 k1 k2 k3 0 sd ln (nI (m_IT tx n pt mi nu).2.1) ((m_IT tx n pt mi nu).2.2.1) ((m_IT tx n pt mi nu).2.2.2.1) ((m_IT tx n pt mi nu).2.2.2.2) ha sv d hsd hd H.size) (cwV 0 hts gX10_run_X10_save rfl rfl rfl (by decide +kernel) ⟨Nat.le_of_ble_eq_true rfl, Nat.le_of_ble_eq_true rfl⟩) ⟨zP.blind, va_recv hK.1 hPc (ci := 9) (q0 := 0) rfl rfl, z_pre hK hPc hDc⟩ rfl rfl hl.1 rfl (lv_room (Nat.le_of_ble_eq_true rfl)) dX10_run_22 ⟨Nat.le_of_ble_eq_true rfl, Nat.le_of_ble_eq_true rfl⟩) hP hD hS hA [2, 0] [1] rfl rfl (by decide) (by decide) (fun H locs hP hD hS => ?_)
  have hP : va_P E.1 vwCl ([[(k3, .inl (E.2 0, 60, .inl tx))], [(h0, .inr (9, [.int 0, .ref k1, .int (nI (m_svC d)), .ref k2, .ref k3, .int ln, .int (nI (m_IT tx n pt mi nu).2.1), .int ((m_IT tx n pt mi nu).2.2.1), .int ((m_IT tx n pt mi nu).2.2.2.1), .int ((m_IT tx n pt mi nu).2.2.2.2), .long ha]))], [(k1, .inl (E.2 0, 1160, .inl (m_svA sv d)))]] : List va_W).flatten H := hP
  have hD : va_D A ([[(k3, .inl (E.2 0, 60, .inl tx))], [(h0, .inr (9, [.int 0, .ref k1, .int (nI (m_svC d)), .ref k2, .ref k3, .int ln, .int (nI (m_IT tx n pt mi nu).2.1), .int ((m_IT tx n pt mi nu).2.2.1), .int ((m_IT tx n pt mi nu).2.2.2.1), .int ((m_IT tx n pt mi nu).2.2.2.2), .long ha]))], [(k1, .inl (E.2 0, 1160, .inl (m_svA sv d)))]] : List va_W).flatten := hD
  refine W.eq (g2 := F0 Mi 25 ls []) rfl ?_
  refine lv_aload_n hx hb dX10_run_25 rfl (lv_at hl 0 rfl) ?_
  refine lv_iconst (v := 0) hx hb dX10_run_26 (by decide) ?_
  refine va_put (D := E.1) (ci := 9) (v := .int 0) (ty := .int) (C := RX10) (T := TX10) (N := 11) hx hb hts hi_X10 tyX10 tyX10_ok nmX10 hown hK.1 hP hD hS 1 rfl rfl 6 (by decide) (hts (.fieldLink RX10 115 "AltimeterWatchModel" "at" "I") (by decide +kernel)) (fun _ h9 => h9) rfl (by decide +kernel) rfl rfl (Nat.le_of_ble_eq_true rfl) dX10_run_27 (fun H locs hP hD hS => ?_)
  have hP : va_P E.1 vwCl ([[(k3, .inl (E.2 0, 60, .inl tx))], [(h0, .inr (9, [.int 0, .ref k1, .int (nI (m_svC d)), .ref k2, .ref k3, .int ln, .int 0, .int ((m_IT tx n pt mi nu).2.2.1), .int ((m_IT tx n pt mi nu).2.2.2.1), .int ((m_IT tx n pt mi nu).2.2.2.2), .long ha]))], [(k1, .inl (E.2 0, 1160, .inl (m_svA sv d)))]] : List va_W).flatten H := hP
  have hD : va_D A ([[(k3, .inl (E.2 0, 60, .inl tx))], [(h0, .inr (9, [.int 0, .ref k1, .int (nI (m_svC d)), .ref k2, .ref k3, .int ln, .int 0, .int ((m_IT tx n pt mi nu).2.2.1), .int ((m_IT tx n pt mi nu).2.2.2.1), .int ((m_IT tx n pt mi nu).2.2.2.2), .long ha]))], [(k1, .inl (E.2 0, 1160, .inl (m_svA sv d)))]] : List va_W).flatten := hD
  exact LOOP_30 61 0 0 (m_IT tx n pt mi nu).2.2.1 (m_IT tx n pt mi nu).2.2.2.1 (m_IT tx n pt mi nu).2.2.2.2 (m_svA sv d) (by omega) (by omega) rfl rfl (z_ok_svA hz) _ _ (zf_sub hP [1, 2, 0] rfl) (zf_subD hD [1, 2, 0] (by decide) rfl) hS ls (lv_sub hl [0] rfl)
