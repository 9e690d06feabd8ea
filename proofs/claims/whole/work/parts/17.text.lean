set_option maxHeartbeats 4000000 in
set_option maxRecDepth 100000 in
theorem c_X7_init (l : Launch) (E : zE) (h0 : Nat) (l0 : Int32) : zX l yX7_init wsX7_init ({ frames := 1, cells := 1, slots := 60, locals := 20 }) E [.ref h0] ([[(h0, .inr (6, [.null, .int l0]))]] : List va_W).flatten none (fun u : Nat => ([[(h0, .inr (6, [.ref u, .int l0]))], [(u, .inl (E.2 0, 60, .inl (fun _ => 0)))]] : List va_W).flatten) 1 60 := by
  refine z_startx (cc := cX7_init) (maxL := 1) (ret := none) (by decide) rfl (Nat.le_of_ble_eq_true rfl) ?_
  intro Pg En s Mi below meth Cd A hx hb hr hts hown hlocks hin hml hA H hH hP hK hD hS ls hl
  have hl : lv_has ls 1 [(0, .ref h0)] := hl
  have hi_X7 : ∀ w ∈ wsX70, w ∈ wsX7_init := by decide +kernel
  refine lv_aload_n hx hb dX7_init_0 rfl (lv_at hl 0 rfl) ?_
  refine W.objInit hx hb hown (hts (.methodLink RX7 3 objectInit) (by decide +kernel)) (hts (.instanceMethod objectInit) (by decide +kernel)) (hts (.code objectInit ⟨#[0xb1]⟩ 1 none) (by decide +kernel)) rfl (by rw [hml]; exact hl.1) rfl dX7_init_1 (Nat.le_of_ble_eq_true rfl) (Nat.le_of_ble_eq_true rfl) ?_
  refine W.eq (g2 := F0 Mi 4 ls []) rfl ?_
  refine lv_aload_n hx hb dX7_init_4 rfl (lv_at hl 0 rfl) ?_
  refine lv_bipush (v := 60) hx hb dX7_init_5 (by decide) ?_
  refine va_newa (D := E.1) (atype := .int) (ty := .int) (N' := 60) (a0 := (60, .inl (fun _ => 0))) hx hb (hts (.arrayClass .int) (by decide +kernel)) rfl hK.1 hP hD hS hA (fun _ => rfl) (by decide) (by decide +kernel) (by decide +kernel) (Nat.le_of_ble_eq_true rfl) (Nat.le_of_ble_eq_true rfl) dX7_init_7 (fun q_7 cA H hK9 hP hD hS => ?_)
  have eA := z_cy0 hK9
  subst eA
  have hP : va_P E.1 vwCl ([[(h0, .inr (6, [.null, .int l0]))], [(q_7, .inl (E.2 0, 60, .inl (fun _ => 0)))]] : List va_W).flatten H := hP
  have hD : va_D A ([[(h0, .inr (6, [.null, .int l0]))], [(q_7, .inl (E.2 0, 60, .inl (fun _ => 0)))]] : List va_W).flatten := hD
  refine W.widen (k := 1) (n := 60) (by decide) (by decide) ?_
  refine va_putF (D := E.1) (ci := 6) (v := .ref q_7) (ty := .array .int) (C := RX7) (T := TX7) (N := 2) hx hb hts hi_X7 tyX7 tyX7_ok nmX7 hown hK.1 hP hD hS 0 rfl rfl 0 (by decide) (hts (.fieldLink RX7 9 "AltimeterWatch$TripText" "codes" "[I") (by decide +kernel)) (fun _ h9 => h9) rfl hin rfl (by decide +kernel) rfl rfl (Nat.le_of_ble_eq_true rfl) dX7_init_9 (fun H locs hP hD hS => ?_)
  have hP : va_P E.1 vwCl ([[(h0, .inr (6, [.ref q_7, .int l0]))], [(q_7, .inl (E.2 0, 60, .inl (fun _ => 0)))]] : List va_W).flatten H := hP
  have hD : va_D A ([[(h0, .inr (6, [.ref q_7, .int l0]))], [(q_7, .inl (E.2 0, 60, .inl (fun _ => 0)))]] : List va_W).flatten := hD
  have hP : va_P E.1 vwCl ([[(h0, .inr (6, [.ref q_7, .int l0]))], [(q_7, .inl (E.2 0, 60, .inl (fun _ => 0)))]] : List va_W).flatten H := zf_sub hP [0, 1] rfl
  have hD : va_D A ([[(h0, .inr (6, [.ref q_7, .int l0]))], [(q_7, .inl (E.2 0, 60, .inl (fun _ => 0)))]] : List va_W).flatten := zf_subD hD [0, 1] (by decide) rfl
  exact W.vret hx hb hr (z_endx (w1 := (fun u : Nat => ([[(h0, .inr (6, [.ref u, .int l0]))], [(u, .inl (E.2 0, 60, .inl (fun _ => 0)))]] : List va_W).flatten)) q_7 hP hD hS rfl) hS.2.2 dX7_init_12 hlocks

set_option maxHeartbeats 4000000 in
set_option maxRecDepth 100000 in
theorem c_X7_put (l : Launch) (E : zE) (h0 a0 n : Nat) (l0 x : Int32) (f : Nat → Int32) (hl0 : l0 = nI n) (hn : n < 60) : zM l yX7_put wsX7_put ({ frames := 0, cells := 0, slots := 0, locals := 0 }) E [.ref h0, .int x] ([[(h0, .inr (6, [.ref a0, .int l0]))], [(a0, .inl (E.2 0, 60, .inl f))]] : List va_W).flatten none ([[(h0, .inr (6, [.ref a0, .int (l0 + 1)]))], [(a0, .inl (E.2 0, 60, .inl (upd f n x)))]] : List va_W).flatten 0 0 := by
  refine z_start (cc := cX7_put) (maxL := 2) (ret := none) (by decide) rfl (Nat.le_of_ble_eq_true rfl) ?_
  intro Pg En s Mi below meth Cd A hx hb hr hts hown hlocks hin hml hA H hH hP hK hD hS ls hl
  have hl : lv_has ls 2 [(0, .ref h0), (1, .int x)] := hl
  have hi_X7 : ∀ w ∈ wsX70, w ∈ wsX7_put := by decide +kernel
  refine lv_aload_n hx hb dX7_put_0 rfl (lv_at hl 0 rfl) ?_
  refine va_get (D := E.1) (ci := 6) (v := .int l0) (C := RX7) (T := TX7) (N := 2) hx hb hts hi_X7 hown hK.1 hP 0 rfl rfl 1 (by decide) (hts (.fieldLink RX7 15 "AltimeterWatch$TripText" "length" "I") (by decide +kernel)) (fun _ h9 => h9) rfl dX7_put_1 ?_
  refine lv_if_lt (tgt := 39) hx hb dX7_put_4 (by decide) (fun h9 => absurd h9 ((by rw [hl0]; exact nI_pos (by omega)))) (fun _ => ?_)
  refine lv_aload_n hx hb dX7_put_7 rfl (lv_at hl 0 rfl) ?_
  refine va_get (D := E.1) (ci := 6) (v := .int l0) (C := RX7) (T := TX7) (N := 2) hx hb hts hi_X7 hown hK.1 hP 0 rfl rfl 1 (by decide) (hts (.fieldLink RX7 15 "AltimeterWatch$TripText" "length" "I") (by decide +kernel)) (fun _ h9 => h9) rfl dX7_put_8 ?_
  refine lv_aload_n hx hb dX7_put_11 rfl (lv_at hl 0 rfl) ?_
  refine va_get (D := E.1) (ci := 6) (v := .ref a0) (C := RX7) (T := TX7) (N := 2) hx hb hts hi_X7 hown hK.1 hP 0 rfl rfl 0 (by decide) (hts (.fieldLink RX7 9 "AltimeterWatch$TripText" "codes" "[I") (by decide +kernel)) (fun _ h9 => h9) rfl dX7_put_12 ?_
  refine va_alen (v := 60) hx hb hK.1 hP 1 0 rfl rfl rfl dX7_put_15 ?_
  refine lv_icmp_ge (tgt := 39) hx hb dX7_put_16 (by decide) (fun h9 => absurd h9 ((by rw [hl0]; exact nI_ge (b := 60) hn (by decide)))) (fun _ => ?_)
  refine lv_aload_n hx hb dX7_put_19 rfl (lv_at hl 0 rfl) ?_
  refine va_get (D := E.1) (ci := 6) (v := .ref a0) (C := RX7) (T := TX7) (N := 2) hx hb hts hi_X7 hown hK.1 hP 0 rfl rfl 0 (by decide) (hts (.fieldLink RX7 9 "AltimeterWatch$TripText" "codes" "[I") (by decide +kernel)) (fun _ h9 => h9) rfl dX7_put_20 ?_
  refine lv_aload_n hx hb dX7_put_23 rfl (lv_at hl 0 rfl) ?_
  refine va_get (D := E.1) (ci := 6) (v := .int l0) (C := RX7) (T := TX7) (N := 2) hx hb hts hi_X7 hown hK.1 hP 0 rfl rfl 1 (by decide) (hts (.fieldLink RX7 15 "AltimeterWatch$TripText" "length" "I") (by decide +kernel)) (fun _ h9 => h9) rfl dX7_put_24 ?_
  refine lv_iload_n hx hb dX7_put_27 rfl (lv_at hl 1 rfl) ?_
  refine z_iast (k := n) hx hb hK.1 hP hD hS 1 rfl hl0 (by omega) (by decide) dX7_put_28 (fun H locs hP hD hS => ?_)
  have hP : va_P E.1 vwCl ([[(h0, .inr (6, [.ref a0, .int l0]))], [(a0, .inl (E.2 0, 60, .inl (upd f n x)))]] : List va_W).flatten H := hP
  have hD : va_D A ([[(h0, .inr (6, [.ref a0, .int l0]))], [(a0, .inl (E.2 0, 60, .inl (upd f n x)))]] : List va_W).flatten := hD
  refine lv_aload_n hx hb dX7_put_29 rfl (lv_at hl 0 rfl) ?_
  refine lv_dup hx hb dX7_put_30 rfl ?_
  refine va_get (D := E.1) (ci := 6) (v := .int l0) (C := RX7) (T := TX7) (N := 2) hx hb hts hi_X7 hown hK.1 hP 0 rfl rfl 1 (by decide) (hts (.fieldLink RX7 15 "AltimeterWatch$TripText" "length" "I") (by decide +kernel)) (fun _ h9 => h9) rfl dX7_put_31 ?_
  refine lv_iconst (v := 1) hx hb dX7_put_34 (by decide) ?_
  refine lv_iadd hx hb dX7_put_35 ?_
  refine lv_topi (fun f_1 ef_1 => ?_)
  refine va_put (D := E.1) (ci := 6) (v := .int f_1) (ty := .int) (C := RX7) (T := TX7) (N := 2) hx hb hts hi_X7 tyX7 tyX7_ok nmX7 hown hK.1 hP hD hS 0 rfl rfl 1 (by decide) (hts (.fieldLink RX7 15 "AltimeterWatch$TripText" "length" "I") (by decide +kernel)) (fun _ h9 => h9) rfl (by decide +kernel) rfl rfl (Nat.le_of_ble_eq_true rfl) dX7_put_36 (fun H locs hP hD hS => ?_)
  have hP : va_P E.1 vwCl ([[(h0, .inr (6, [.ref a0, .int f_1]))], [(a0, .inl (E.2 0, 60, .inl (upd f n x)))]] : List va_W).flatten H := hP
  have hD : va_D A ([[(h0, .inr (6, [.ref a0, .int f_1]))], [(a0, .inl (E.2 0, 60, .inl (upd f n x)))]] : List va_W).flatten := hD
  have hP : va_P E.1 vwCl ([[(h0, .inr (6, [.ref a0, .int f_1]))], [(a0, .inl (E.2 0, 60, .inl (upd f n x)))]] : List va_W).flatten H := zf_sub hP [0, 1] rfl
  have hD : va_D A ([[(h0, .inr (6, [.ref a0, .int f_1]))], [(a0, .inl (E.2 0, 60, .inl (upd f n x)))]] : List va_W).flatten := zf_subD hD [0, 1] (by decide) rfl
  exact W.vret hx hb hr (z_end hP hD hS (by rw [← ef_1])) hS.2.2 dX7_put_39 hlocks

set_option maxHeartbeats 4000000 in
set_option maxRecDepth 100000 in
theorem c_X7_readWith (l : Launch) (E : zE) (h0 a0 k0 n : Nat) (l0 : Int32) (f : Nat → Int32) (hl0 : l0 = nI n) (hn : n ≤ 60) : zM l yX7_readWith wsX7_readWith ({ frames := 5, cells := 0, slots := 0, locals := 112 }) E [.ref h0, .ref k0] ([[(h0, .inr (6, [.ref a0, .int l0]))], [(a0, .inl (E.2 0, 60, .inl f))], [(k0, .inr (5, [.int 0, .int 0, .int (-1)]))]] : List va_W).flatten (some (.int (nI (m_fe f n)))) ([[(h0, .inr (6, [.ref a0, .int l0]))], [(a0, .inl (E.2 0, 60, .inl f))], [(k0, .inr (5, [.int ((m_run f (m_fe f n)).1), .int ((m_run f (m_fe f n)).2.1), .int ((m_run f (m_fe f n)).2.2)]))]] : List va_W).flatten 0 0 := by
  refine z_start (cc := cX7_readWith) (maxL := 3) (ret := (some .int)) (by decide) rfl (Nat.le_of_ble_eq_true rfl) ?_
  intro Pg En s Mi below meth Cd A hx hb hr hts hown hlocks hin hml hA H hH hP hK hD hS ls hl
  have hl : lv_has ls 3 [(0, .ref h0), (1, .ref k0)] := hl
  have hi_X7 : ∀ w ∈ wsX70, w ∈ wsX7_readWith := by decide +kernel
  have LOOP_2 : ∀ (k1 : Nat) (i : Nat) (x : Int32), n < i + k1 → i ≤ n → x = nI i → m_fe f n = m_fel f (n - i) i →  ∀ (H : Heap) (locs : List Loc), va_P E.1 vwCl ([[(h0, .inr (6, [.ref a0, .int l0]))], [(a0, .inl (E.2 0, 60, .inl f))], [(k0, .inr (5, [.int ((m_run f i).1), .int ((m_run f i).2.1), .int ((m_run f i).2.2)]))]] : List va_W).flatten H → va_D A ([[(h0, .inr (6, [.ref a0, .int l0]))], [(a0, .inl (E.2 0, 60, .inl f))], [(k0, .inr (5, [.int ((m_run f i).1), .int ((m_run f i).2.1), .int ((m_run f i).2.2)]))]] : List va_W).flatten → va_S A s.heap H locs → ∀ (ls : Array Slot), lv_has ls 3 [(0, .ref h0), (1, .ref k0), (2, .int x)] → W Pg l En ({ frames := 5, cells := 0, slots := 0, locals := 112 } : Room) s Mi ([.ref h0, .ref k0] : List Value).toArray below meth Cd H locs 0 0 (MQ below (zQ (some (.int (nI (m_fe f n)))) (zB E ([[(h0, .inr (6, [.ref a0, .int l0]))], [(a0, .inl (E.2 0, 60, .inl f))], [(k0, .inr (5, [.int ((m_run f (m_fe f n)).1), .int ((m_run f (m_fe f n)).2.1), .int ((m_run f (m_fe f n)).2.2)]))]] : List va_W).flatten A) A) ([.ref h0, .ref k0] : List Value).toArray s 0 0 A) (F0 Mi 2 ls []) := by
    intro k1
    induction k1 with
    | zero => intro i x h1 h2 h3 h5; exact absurd h1 (by omega)
    | succ k1 ih =>
      intro i x h1 h2 h3 h5 H locs hP hD hS ls hl
      refine lv_iload_n hx hb dX7_readWith_2 rfl (lv_at hl 2 rfl) ?_
      refine lv_aload_n hx hb dX7_readWith_3 rfl (lv_at hl 0 rfl) ?_
      refine va_get (D := E.1) (ci := 6) (v := .int l0) (C := RX7) (T := TX7) (N := 2) hx hb hts hi_X7 hown hK.1 hP 0 rfl rfl 1 (by decide) (hts (.fieldLink RX7 15 "AltimeterWatch$TripText" "length" "I") (by decide +kernel)) (fun _ h9 => h9) rfl dX7_readWith_4 ?_
      refine lv_icmp_ge (tgt := 40) hx hb dX7_readWith_7 (by decide) (fun c_7 => ?_) (fun c_7 => ?_)
      · refine lv_aload_n hx hb dX7_readWith_40 rfl (lv_at hl 0 rfl) ?_
        refine va_get (D := E.1) (ci := 6) (v := .int l0) (C := RX7) (T := TX7) (N := 2) hx hb hts hi_X7 hown hK.1 hP 0 rfl rfl 1 (by decide) (hts (.fieldLink RX7 15 "AltimeterWatch$TripText" "length" "I") (by decide +kernel)) (fun _ h9 => h9) rfl dX7_readWith_41 ?_
        refine z_topi (y := nI (m_fe f n)) (by have e : m_fe f n = n := by { have e2 : i = n := (by have := nI_len (a := n) (b := i) (by omega) (by omega) (by rw [← h3, ← hl0]; exact c_7); omega); rw [h5, e2, Nat.sub_self]; rfl }; rw [e, hl0]) ?_
        have hP : va_P E.1 vwCl ([[(h0, .inr (6, [.ref a0, .int l0]))], [(a0, .inl (E.2 0, 60, .inl f))], [(k0, .inr (5, [.int ((m_run f i).1), .int ((m_run f i).2.1), .int ((m_run f i).2.2)]))]] : List va_W).flatten H := zf_sub hP [0, 1, 2] rfl
        have hD : va_D A ([[(h0, .inr (6, [.ref a0, .int l0]))], [(a0, .inl (E.2 0, 60, .inl f))], [(k0, .inr (5, [.int ((m_run f i).1), .int ((m_run f i).2.1), .int ((m_run f i).2.2)]))]] : List va_W).flatten := zf_subD hD [0, 1, 2] (by decide) rfl
        exact W.iret (v := nI (m_fe f n)) hx hb hr (z_end hP hD hS (by have e2 : i = n := (by have := nI_len (a := n) (b := i) (by omega) (by omega) (by rw [← h3, ← hl0]; exact c_7); omega); have e : m_fe f n = n := by { have e2 : i = n := (by have := nI_len (a := n) (b := i) (by omega) (by omega) (by rw [← h3, ← hl0]; exact c_7); omega); rw [h5, e2, Nat.sub_self]; rfl }; rw [e, e2])) hS.2.2 dX7_readWith_44 hlocks
      · have hlt : i < n := nI_nlen (by omega) (by omega) (by rw [← h3, ← hl0]; exact c_7)
        refine lv_iload_n hx hb dX7_readWith_10 rfl (lv_at hl 2 rfl) ?_
        refine lv_aload_n hx hb dX7_readWith_11 rfl (lv_at hl 0 rfl) ?_
        refine va_get (D := E.1) (ci := 6) (v := .ref a0) (C := RX7) (T := TX7) (N := 2) hx hb hts hi_X7 hown hK.1 hP 0 rfl rfl 0 (by decide) (hts (.fieldLink RX7 9 "AltimeterWatch$TripText" "codes" "[I") (by decide +kernel)) (fun _ h9 => h9) rfl dX7_readWith_12 ?_
        refine va_alen (v := 60) hx hb hK.1 hP 1 0 rfl rfl rfl dX7_readWith_15 ?_
        refine lv_icmp_ge (tgt := 40) hx hb dX7_readWith_16 (by decide) (fun h9 => absurd h9 ((by rw [h3]; exact nI_ge (b := 60) (by omega) (by decide)))) (fun _ => ?_)
        refine lv_aload_n hx hb dX7_readWith_19 rfl (lv_at hl 1 rfl) ?_
        refine lv_aload_n hx hb dX7_readWith_20 rfl (lv_at hl 0 rfl) ?_
        refine va_get (D := E.1) (ci := 6) (v := .ref a0) (C := RX7) (T := TX7) (N := 2) hx hb hts hi_X7 hown hK.1 hP 0 rfl rfl 0 (by decide) (hts (.fieldLink RX7 9 "AltimeterWatch$TripText" "codes" "[I") (by decide +kernel)) (fun _ h9 => h9) rfl dX7_readWith_21 ?_
        refine lv_iload_n hx hb dX7_readWith_24 rfl (lv_at hl 2 rfl) ?_
        refine z_iald (k := i) hx hb hK.1 hP 1 rfl h3 (by omega) (by decide) dX7_readWith_25 ?_
        have hPc : va_P E.1 vwCl ([[(k0, .inr (5, [.int ((m_run f i).1), .int ((m_run f i).2.1), .int ((m_run f i).2.2)]))]] : List va_W).flatten H := zf_sub hP [2] rfl
        have hDc : va_D A ([[(k0, .inr (5, [.int ((m_run f i).1), .int ((m_run f i).2.1), .int ((m_run f i).2.2)]))]] : List va_W).flatten := zf_subD hD [2] (by decide) rfl
        refine z_mut (Sc := [[(k0, .inr (5, [.int ((m_run f i).1), .int ((m_run f i).2.1), .int ((m_run f i).2.2)]))]]) (Sr := [[(h0, .inr (6, [.ref a0, .int l0]))], [(a0, .inl (E.2 0, 60, .inl f))]]) (W1 := [[(k0, .inr (5, [.int (m_rsp ((m_run f i).1) ((m_run f i).2.2) (f i)), .int (m_rsm ((m_run f i).1) ((m_run f i).2.1) ((m_run f i).2.2) (f i)), .int (m_rsn ((m_run f i).1) ((m_run f i).2.2) (f i))]))]]) (va_runV (As := [.int (f i)]) (rest := []) ⟨hx, hb, hml, hown, hts⟩ (c_X6_reads l E k0 ((m_run f i).1) ((m_run f i).2.1) ((m_run f i).2.2) (f i) (m_pt_run f i) H.size) (cwV 1 hts gX7_readWith_X6_reads rfl rfl rfl (by decide +kernel) ⟨Nat.le_of_ble_eq_true rfl, Nat.le_of_ble_eq_true rfl⟩) ⟨zP.blind, va_recv hK.1 hPc (ci := 5) (q0 := 0) rfl rfl, z_pre hK hPc hDc⟩ rfl rfl hl.1 rfl (lv_room (Nat.le_of_ble_eq_true rfl)) dX7_readWith_26 ⟨Nat.le_of_ble_eq_true rfl, Nat.le_of_ble_eq_true rfl⟩) hP hD hS hA [2] [0, 1] rfl rfl (by decide) (by decide) (fun H locs hP hD hS => ?_)
        have hP : va_P E.1 vwCl ([[(h0, .inr (6, [.ref a0, .int l0]))], [(a0, .inl (E.2 0, 60, .inl f))], [(k0, .inr (5, [.int (m_rsp ((m_run f i).1) ((m_run f i).2.2) (f i)), .int (m_rsm ((m_run f i).1) ((m_run f i).2.1) ((m_run f i).2.2) (f i)), .int (m_rsn ((m_run f i).1) ((m_run f i).2.2) (f i))]))]] : List va_W).flatten H := hP
        have hD : va_D A ([[(h0, .inr (6, [.ref a0, .int l0]))], [(a0, .inl (E.2 0, 60, .inl f))], [(k0, .inr (5, [.int (m_rsp ((m_run f i).1) ((m_run f i).2.2) (f i)), .int (m_rsm ((m_run f i).1) ((m_run f i).2.1) ((m_run f i).2.2) (f i)), .int (m_rsn ((m_run f i).1) ((m_run f i).2.2) (f i))]))]] : List va_W).flatten := hD
        refine W.eq (g2 := F0 Mi 29 ls [.int (m_rso ((m_run f i).1) ((m_run f i).2.2) (f i))]) rfl ?_
        refine lv_if_ne (tgt := 34) hx hb dX7_readWith_29 (by decide) (fun c_29 => ?_) (fun c_29 => ?_)
        · rw [← m_run_1, ← m_run_2, ← m_run_3] at hP hD
          obtain ⟨x_1, ex_1⟩ : ∃ y : Int32, y = x + 1 := ⟨_, rfl⟩
          refine lv_iinc (v := x_1) (lv' := [(2, .int x_1), (0, .ref h0), (1, .ref k0)]) hx hb dX7_readWith_34 hl (k := 2) rfl (by rw [ex_1]; rfl) (by decide) rfl (fun ls hl => ?_)
          refine lv_goto (tgt := 2) hx hb dX7_readWith_37 (by decide) ?_
          exact ih (i + 1) x_1 (by omega) (by omega) (by rw [ex_1, h3]; exact nI_1 i) (by rw [h5, show n - i = n - (i + 1) + 1 by omega, m_fel, if_neg c_29]) _ _ (zf_sub hP [0, 1, 2] rfl) (zf_subD hD [0, 1, 2] (by decide) rfl) hS ls (lv_sub hl [1, 2, 0] rfl)
        · refine lv_iload_n hx hb dX7_readWith_32 rfl (lv_at hl 2 rfl) ?_
          refine z_topi (y := nI (m_fe f n)) (by rw [h5, show n - i = n - i - 1 + 1 by omega, m_fel, if_pos c_29, h3]) ?_
          have hP : va_P E.1 vwCl ([[(h0, .inr (6, [.ref a0, .int l0]))], [(a0, .inl (E.2 0, 60, .inl f))], [(k0, .inr (5, [.int (m_rsp ((m_run f i).1) ((m_run f i).2.2) (f i)), .int (m_rsm ((m_run f i).1) ((m_run f i).2.1) ((m_run f i).2.2) (f i)), .int (m_rsn ((m_run f i).1) ((m_run f i).2.2) (f i))]))]] : List va_W).flatten H := zf_sub hP [0, 1, 2] rfl
          have hD : va_D A ([[(h0, .inr (6, [.ref a0, .int l0]))], [(a0, .inl (E.2 0, 60, .inl f))], [(k0, .inr (5, [.int (m_rsp ((m_run f i).1) ((m_run f i).2.2) (f i)), .int (m_rsm ((m_run f i).1) ((m_run f i).2.1) ((m_run f i).2.2) (f i)), .int (m_rsn ((m_run f i).1) ((m_run f i).2.2) (f i))]))]] : List va_W).flatten := zf_subD hD [0, 1, 2] (by decide) rfl
          exact W.iret (v := nI (m_fe f n)) hx hb hr (z_end hP hD hS (by have e : m_fe f n = i := by { rw [h5, show n - i = n - i - 1 + 1 by omega, m_fel, if_pos c_29] }; rw [e, (m_rs_fail (mi := (m_run f i).2.1) c_29).1, (m_rs_fail (mi := (m_run f i).2.1) c_29).2.1, (m_rs_fail (mi := (m_run f i).2.1) c_29).2.2])) hS.2.2 dX7_readWith_33 hlocks
  refine lv_iconst (v := 0) hx hb dX7_readWith_0 (by decide) ?_
  refine lv_istore_n (lv' := [(2, .int 0), (0, .ref h0), (1, .ref k0)]) hx hb dX7_readWith_1 rfl hl (by decide) rfl (fun ls hl => ?_)
  exact LOOP_2 (n + 1) 0 0 (by omega) (by omega) rfl rfl _ _ (zf_sub hP [0, 1, 2] rfl) (zf_subD hD [0, 1, 2] (by decide) rfl) hS ls (lv_sub hl [1, 2, 0] rfl)
