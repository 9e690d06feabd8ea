set_option maxHeartbeats 4000000 in
set_option maxRecDepth 100000 in
theorem c_X6_init (l : Launch) (E : zE) (h0 : Nat) (a b c0 : Int32) : zM l yX6_init wsX6_init ({ frames := 1, cells := 0, slots := 0, locals := 20 }) E [.ref h0] ([[(h0, .inr (5, [.int a, .int b, .int c0]))]] : List va_W).flatten none ([[(h0, .inr (5, [.int 0, .int b, .int (-1)]))]] : List va_W).flatten 0 0 := by
  refine z_start (cc := cX6_init) (maxL := 1) (ret := none) (by decide) rfl (Nat.le_of_ble_eq_true rfl) ?_
  intro Pg En s Mi below meth Cd A hx hb hr hts hown hlocks hin hml hA H hH hP hK hD hS ls hl
  have hl : lv_has ls 1 [(0, .ref h0)] := hl
  have hi_X6 : ∀ w ∈ wsX60, w ∈ wsX6_init := by decide +kernel
  refine lv_aload_n hx hb dX6_init_0 rfl (lv_at hl 0 rfl) ?_
  refine W.objInit hx hb hown (hts (.methodLink RX6 3 objectInit) (by decide +kernel)) (hts (.instanceMethod objectInit) (by decide +kernel)) (hts (.code objectInit ⟨#[0xb1]⟩ 1 none) (by decide +kernel)) rfl (by rw [hml]; exact hl.1) rfl dX6_init_1 (Nat.le_of_ble_eq_true rfl) (Nat.le_of_ble_eq_true rfl) ?_
  refine W.eq (g2 := F0 Mi 4 ls []) rfl ?_
  refine lv_aload_n hx hb dX6_init_4 rfl (lv_at hl 0 rfl) ?_
  refine lv_iconst (v := 0) hx hb dX6_init_5 (by decide) ?_
  refine va_put (D := E.1) (ci := 5) (v := .int 0) (ty := .int) (C := RX6) (T := TX6) (N := 3) hx hb hts hi_X6 tyX6 tyX6_ok nmX6 hown hK.1 hP hD hS 0 rfl rfl 0 (by decide) (hts (.fieldLink RX6 11 "AltimeterWatch$TripReader" "part" "I") (by decide +kernel)) (fun _ h9 => h9) rfl (by decide +kernel) rfl rfl (Nat.le_of_ble_eq_true rfl) dX6_init_6 (fun H locs hP hD hS => ?_)
  have hP : va_P E.1 vwCl ([[(h0, .inr (5, [.int 0, .int b, .int c0]))]] : List va_W).flatten H := hP
  have hD : va_D A ([[(h0, .inr (5, [.int 0, .int b, .int c0]))]] : List va_W).flatten := hD
  refine lv_aload_n hx hb dX6_init_9 rfl (lv_at hl 0 rfl) ?_
  refine lv_iconst (v := (-1)) hx hb dX6_init_10 (by decide) ?_
  refine va_put (D := E.1) (ci := 5) (v := .int (-1)) (ty := .int) (C := RX6) (T := TX6) (N := 3) hx hb hts hi_X6 tyX6 tyX6_ok nmX6 hown hK.1 hP hD hS 0 rfl rfl 2 (by decide) (hts (.fieldLink RX6 15 "AltimeterWatch$TripReader" "number" "I") (by decide +kernel)) (fun _ h9 => h9) rfl (by decide +kernel) rfl rfl (Nat.le_of_ble_eq_true rfl) dX6_init_11 (fun H locs hP hD hS => ?_)
  have hP : va_P E.1 vwCl ([[(h0, .inr (5, [.int 0, .int b, .int (-1)]))]] : List va_W).flatten H := hP
  have hD : va_D A ([[(h0, .inr (5, [.int 0, .int b, .int (-1)]))]] : List va_W).flatten := hD
  have hP : va_P E.1 vwCl ([[(h0, .inr (5, [.int 0, .int b, .int (-1)]))]] : List va_W).flatten H := zf_sub hP [0] rfl
  have hD : va_D A ([[(h0, .inr (5, [.int 0, .int b, .int (-1)]))]] : List va_W).flatten := zf_subD hD [0] (by decide) rfl
  exact W.vret hx hb hr (z_end hP hD hS rfl) hS.2.2 dX6_init_14 hlocks

theorem k_lt5 {k : Nat} {x : Int32} (h : x = nI k) (c : ¬ 5 ≤ x) (h2 : k ≤ 5) : k < 5 := by
  subst h
  rw [fa_le, nI_toInt (by omega)] at c
  have : (5 : Int32).toInt = 5 := rfl
  omega
theorem k_ge5 {k : Nat} {x : Int32} (h : x = nI k) (c : 5 ≤ x) (h2 : k ≤ 5) : k = 5 := by
  subst h
  rw [fa_le, nI_toInt (by omega)] at c
  have : (5 : Int32).toInt = 5 := rfl
  omega

set_option maxHeartbeats 4000000 in
set_option maxRecDepth 100000 in
theorem c_X6_canGrowInto (l : Launch) (E : zE) (p0 p1 p2 r : Int32) (er : r = m_cg p0 p1 p2) : zR l yX6_canGrowInto wsX6_canGrowInto ({ frames := 0, cells := 0, slots := 0, locals := 0 }) E [.int p0, .int p1, .int p2] [] (some (.int r)) := by
  have hr01 : narrow .boolean (.int r) = .int r := by rw [er]; exact z_b01 (m_cg01 _ _ _)
  refine z_startr (cc := cX6_canGrowInto) (maxL := 6) (ret := (some .boolean)) (by decide) rfl (Nat.le_of_ble_eq_true rfl) ?_
  intro Pg En s Mi below meth Cd hx hb hr hts hown hlocks hml hP hK ls hl
  have hl : lv_has ls 6 [(0, .int p0), (1, .int p1), (2, .int p2)] := hl
  have LOOP_22 : ∀ (k1 : Nat) (i : Nat) (lo hi x : Int32), 5 < i + k1 → i ≤ 5 → x = nI i → r = m_cgl lo hi p1 p2 (5 - i) →  ∀ (ls : Array Slot), lv_has ls 6 [(1, .int p1), (2, .int p2), (3, .int lo), (4, .int hi), (5, .int x)] → W Pg l En ({ frames := 0, cells := 0, slots := 0, locals := 0 } : Room) s Mi ([.int p0, .int p1, .int p2] : List Value).toArray below meth Cd s.heap [] 0 0 (MQ below (zQr (some (.int r))) ([.int p0, .int p1, .int p2] : List Value).toArray s 0 0 (fun _ => False)) (F0 Mi 22 ls []) := by
    intro k1
    induction k1 with
    | zero => intro i lo hi x h1 h2 h3 h5; exact absurd h1 (by omega)
    | succ k1 ih =>
      intro i lo hi x h1 h2 h3 h5 ls hl
      refine lv_iload hx hb dX6_canGrowInto_22 (lv_at hl 4 rfl) ?_
      refine lv_iconst (v := 5) hx hb dX6_canGrowInto_24 (by decide) ?_
      refine lv_icmp_ge (tgt := 62) hx hb dX6_canGrowInto_25 (by decide) (fun c_25 => ?_) (fun c_25 => ?_)
      · refine lv_iconst (v := 0) hx hb dX6_canGrowInto_62 (by decide) ?_
        refine z_topi (y := r) (by have := k_ge5 h3 c_25 h2; subst this; rw [h5]; rfl) ?_
        exact W.zret (v := r) hx hb hr hr01 z_endR (fun _ h => by cases h) dX6_canGrowInto_63 hlocks
      · refine lv_iload_n hx hb dX6_canGrowInto_28 rfl (lv_at hl 2 rfl) ?_
        refine lv_iload_n hx hb dX6_canGrowInto_29 rfl (lv_at hl 1 rfl) ?_
        refine lv_icmp_gt (tgt := 62) hx hb dX6_canGrowInto_30 (by decide) (fun c_30 => ?_) (fun c_30 => ?_)
        · refine lv_iconst (v := 0) hx hb dX6_canGrowInto_62 (by decide) ?_
          refine z_topi (y := r) (by have := k_lt5 h3 c_25 h2; rw [h5, show 5 - i = 5 - (i + 1) + 1 by omega, m_cgl, if_neg (Int32.not_le.mpr c_30)]) ?_
          exact W.zret (v := r) hx hb hr hr01 z_endR (fun _ h => by cases h) dX6_canGrowInto_63 hlocks
        · refine lv_iload hx hb dX6_canGrowInto_33 (lv_at hl 3 rfl) ?_
          refine lv_iload_n hx hb dX6_canGrowInto_35 rfl (lv_at hl 0 rfl) ?_
          refine lv_icmp_lt (tgt := 41) hx hb dX6_canGrowInto_36 (by decide) (fun c_36 => ?_) (fun c_36 => ?_)
          · refine lv_iload_n hx hb dX6_canGrowInto_41 rfl (lv_at hl 2 rfl) ?_
            refine lv_bipush (v := 10) hx hb dX6_canGrowInto_42 (by decide) ?_
            refine lv_imul hx hb dX6_canGrowInto_44 ?_
            refine lv_topi (fun f_1 ef_1 => ?_)
            refine lv_istore_n (lv' := [(3, .int f_1), (1, .int p1), (2, .int p2), (4, .int hi), (5, .int x)]) hx hb dX6_canGrowInto_45 rfl hl (by decide) rfl (fun ls hl => ?_)
            refine lv_iload hx hb dX6_canGrowInto_46 (lv_at hl 3 rfl) ?_
            refine lv_bipush (v := 10) hx hb dX6_canGrowInto_48 (by decide) ?_
            refine lv_imul hx hb dX6_canGrowInto_50 ?_
            refine lv_bipush (v := 9) hx hb dX6_canGrowInto_51 (by decide) ?_
            refine lv_iadd hx hb dX6_canGrowInto_53 ?_
            refine lv_topi (fun f_2 ef_2 => ?_)
            refine lv_istore (lv' := [(4, .int f_2), (3, .int f_1), (1, .int p1), (2, .int p2), (5, .int x)]) hx hb dX6_canGrowInto_54 hl (by decide) rfl (fun ls hl => ?_)
            obtain ⟨x_3, ex_3⟩ : ∃ y : Int32, y = x + 1 := ⟨_, rfl⟩
            refine lv_iinc (v := x_3) (lv' := [(5, .int x_3), (4, .int f_2), (3, .int f_1), (1, .int p1), (2, .int p2)]) hx hb dX6_canGrowInto_56 hl (k := 4) rfl (by rw [ex_3]; rfl) (by decide) rfl (fun ls hl => ?_)
            refine lv_goto (tgt := 22) hx hb dX6_canGrowInto_59 (by decide) ?_
            exact ih (i + 1) f_1 f_2 x_3 (by omega) (by have := k_lt5 h3 c_25 h2; omega) (by rw [ex_3, h3]; exact nI_1 i) (by have := k_lt5 h3 c_25 h2; rw [h5, show 5 - i = 5 - (i + 1) + 1 by omega, m_cgl, if_pos (Int32.not_lt.mp c_30), if_neg (Int32.not_le.mpr c_36), ef_1, ef_2]) ls (lv_sub hl [3, 4, 2, 1, 0] rfl)
          · refine lv_iconst (v := 1) hx hb dX6_canGrowInto_39 (by decide) ?_
            refine z_topi (y := r) (by have := k_lt5 h3 c_25 h2; rw [h5, show 5 - i = 5 - (i + 1) + 1 by omega, m_cgl, if_pos (Int32.not_lt.mp c_30), if_pos (Int32.not_lt.mp c_36)]) ?_
            exact W.zret (v := r) hx hb hr hr01 z_endR (fun _ h => by cases h) dX6_canGrowInto_40 hlocks
  refine lv_iload_n hx hb dX6_canGrowInto_0 rfl (lv_at hl 0 rfl) ?_
  refine lv_if_ne (tgt := 14) hx hb dX6_canGrowInto_1 (by decide) (fun c_1 => ?_) (fun c_1 => ?_)
  · refine lv_iload_n hx hb dX6_canGrowInto_14 rfl (lv_at hl 0 rfl) ?_
    refine lv_istore_n (lv' := [(3, .int p0), (0, .int p0), (1, .int p1), (2, .int p2)]) hx hb dX6_canGrowInto_15 rfl hl (by decide) rfl (fun ls hl => ?_)
    refine lv_iload_n hx hb dX6_canGrowInto_16 rfl (lv_at hl 1 rfl) ?_
    refine lv_istore (lv' := [(4, .int p0), (3, .int p0), (0, .int p0), (1, .int p1), (2, .int p2)]) hx hb dX6_canGrowInto_17 hl (by decide) rfl (fun ls hl => ?_)
    refine lv_iconst (v := 0) hx hb dX6_canGrowInto_19 (by decide) ?_
    refine lv_istore (lv' := [(5, .int 0), (4, .int p0), (3, .int p0), (0, .int p0), (1, .int p1), (2, .int p2)]) hx hb dX6_canGrowInto_20 hl (by decide) rfl (fun ls hl => ?_)
    exact LOOP_22 6 0 p0 p0 0 (by decide) (by decide) rfl (by rw [er, m_cg, if_neg c_1]) ls (lv_sub hl [4, 5, 2, 1, 0] rfl)
  · refine lv_iload_n hx hb dX6_canGrowInto_4 rfl (lv_at hl 1 rfl) ?_
    refine lv_if_gt (tgt := 12) hx hb dX6_canGrowInto_5 (by decide) (fun c_5 => ?_) (fun c_5 => ?_)
    · refine lv_iconst (v := 0) hx hb dX6_canGrowInto_12 (by decide) ?_
      refine z_topi (y := r) (by rw [er, m_cg, if_pos c_1, if_neg (Int32.not_le.mpr c_5)]) ?_
      exact W.zret (v := r) hx hb hr hr01 z_endR (fun _ h => by cases h) dX6_canGrowInto_13 hlocks
    · refine lv_iconst (v := 1) hx hb dX6_canGrowInto_8 (by decide) ?_
      refine lv_goto (tgt := 13) hx hb dX6_canGrowInto_9 (by decide) ?_
      refine z_topi (y := r) (by rw [er, m_cg, if_pos c_1, if_pos (Int32.not_lt.mp c_5)]) ?_
      exact W.zret (v := r) hx hb hr hr01 z_endR (fun _ h => by cases h) dX6_canGrowInto_13 hlocks

set_option maxHeartbeats 4000000 in
set_option maxRecDepth 100000 in
theorem c_X6_readsDigit (l : Launch) (E : zE) (h0 : Nat) (pt mi nu c b m : Int32) : zM l yX6_readsDigit wsX6_readsDigit ({ frames := 1, cells := 0, slots := 0, locals := 25 }) E [.ref h0, .int c, .int b, .int m] ([[(h0, .inr (5, [.int pt, .int mi, .int nu]))]] : List va_W).flatten (some (.int (m_rdo nu c b m))) ([[(h0, .inr (5, [.int pt, .int mi, .int (m_rdn nu c b m)]))]] : List va_W).flatten 0 0 := by
  refine z_start (cc := cX6_readsDigit) (maxL := 5) (ret := (some .boolean)) (by decide) rfl (Nat.le_of_ble_eq_true rfl) ?_
  intro Pg En s Mi below meth Cd A hx hb hr hts hown hlocks hin hml hA H hH hP hK hD hS ls hl
  have hl : lv_has ls 5 [(0, .ref h0), (1, .int c), (2, .int b), (3, .int m)] := hl
  have hi_X6 : ∀ w ∈ wsX60, w ∈ wsX6_readsDigit := by decide +kernel
  refine lv_iload_n hx hb dX6_readsDigit_0 rfl (lv_at hl 1 rfl) ?_
  refine lv_bipush (v := 48) hx hb dX6_readsDigit_1 (by decide) ?_
  refine lv_icmp_lt (tgt := 19) hx hb dX6_readsDigit_3 (by decide) (fun c_3 => ?_) (fun c_3 => ?_)
  · refine lv_iconst (v := 0) hx hb dX6_readsDigit_19 (by decide) ?_
    refine z_topi (y := m_rdo nu c b m) (by rw [m_rdo, if_pos c_3]) ?_
    have hP : va_P E.1 vwCl ([[(h0, .inr (5, [.int pt, .int mi, .int nu]))]] : List va_W).flatten H := zf_sub hP [0] rfl
    have hD : va_D A ([[(h0, .inr (5, [.int pt, .int mi, .int nu]))]] : List va_W).flatten := zf_subD hD [0] (by decide) rfl
    exact W.zret (v := m_rdo nu c b m) hx hb hr (z_b01 (m_rdo01 _ _ _ _)) (z_end hP hD hS (by rw [m_rdn, if_pos (by rw [m_rdo, if_pos c_3])])) hS.2.2 dX6_readsDigit_20 hlocks
  · refine lv_iload_n hx hb dX6_readsDigit_6 rfl (lv_at hl 1 rfl) ?_
    refine lv_bipush (v := 57) hx hb dX6_readsDigit_7 (by decide) ?_
    refine lv_icmp_gt (tgt := 19) hx hb dX6_readsDigit_9 (by decide) (fun c_9 => ?_) (fun c_9 => ?_)
    · refine lv_iconst (v := 0) hx hb dX6_readsDigit_19 (by decide) ?_
      refine z_topi (y := m_rdo nu c b m) (by rw [m_rdo, if_neg c_3, if_pos c_9]) ?_
      have hP : va_P E.1 vwCl ([[(h0, .inr (5, [.int pt, .int mi, .int nu]))]] : List va_W).flatten H := zf_sub hP [0] rfl
      have hD : va_D A ([[(h0, .inr (5, [.int pt, .int mi, .int nu]))]] : List va_W).flatten := zf_subD hD [0] (by decide) rfl
      exact W.zret (v := m_rdo nu c b m) hx hb hr (z_b01 (m_rdo01 _ _ _ _)) (z_end hP hD hS (by rw [m_rdn, if_pos (by rw [m_rdo, if_neg c_3, if_pos c_9])])) hS.2.2 dX6_readsDigit_20 hlocks
    · refine lv_aload_n hx hb dX6_readsDigit_12 rfl (lv_at hl 0 rfl) ?_
      refine va_get (D := E.1) (ci := 5) (v := .int nu) (C := RX6) (T := TX6) (N := 3) hx hb hts hi_X6 hown hK.1 hP 0 rfl rfl 2 (by decide) (hts (.fieldLink RX6 15 "AltimeterWatch$TripReader" "number" "I") (by decide +kernel)) (fun _ h9 => h9) rfl dX6_readsDigit_13 ?_
      refine lv_if_ne (tgt := 21) hx hb dX6_readsDigit_16 (by decide) (fun c_16 => ?_) (fun c_16 => ?_)
      · refine lv_aload_n hx hb dX6_readsDigit_21 rfl (lv_at hl 0 rfl) ?_
        refine va_get (D := E.1) (ci := 5) (v := .int nu) (C := RX6) (T := TX6) (N := 3) hx hb hts hi_X6 hown hK.1 hP 0 rfl rfl 2 (by decide) (hts (.fieldLink RX6 15 "AltimeterWatch$TripReader" "number" "I") (by decide +kernel)) (fun _ h9 => h9) rfl dX6_readsDigit_22 ?_
        refine lv_iconst (v := 0) hx hb dX6_readsDigit_25 (by decide) ?_
        refine va_mmax hx hb (by rw [hml]; exact hl.1.symm) hown (hts (.methodLink RX6 43 Lib.Math.max.name) (by decide +kernel)) (hts (.static Lib.Math.max.name) (by decide +kernel)) (hts (.initialized "java/lang/Math") (by decide +kernel)) (hts (.code Lib.Math.max.name Lib.Math.max.code 2 (some .int)) (by decide +kernel)) (Nat.le_of_ble_eq_true rfl) (Nat.le_of_ble_eq_true rfl) (Nat.le_of_ble_eq_true rfl) (Nat.le_of_ble_eq_true rfl) dX6_readsDigit_26 ?_
        refine z_topi (y := m_max0 nu) (by unfold m_max0; rfl) ?_
        refine lv_bipush (v := 10) hx hb dX6_readsDigit_29 (by decide) ?_
        refine lv_imul hx hb dX6_readsDigit_31 ?_
        refine lv_iload_n hx hb dX6_readsDigit_32 rfl (lv_at hl 1 rfl) ?_
        refine lv_iadd hx hb dX6_readsDigit_33 ?_
        refine lv_bipush (v := 48) hx hb dX6_readsDigit_34 (by decide) ?_
        refine lv_isub hx hb dX6_readsDigit_36 ?_
        refine z_topi (y := m_lon nu c) rfl ?_
        refine lv_topi (fun f_1 ef_1 => ?_)
        refine lv_istore (lv' := [(4, .int f_1), (0, .ref h0), (1, .int c), (2, .int b), (3, .int m)]) hx hb dX6_readsDigit_37 hl (by decide) rfl (fun ls hl => ?_)
        refine lv_iload hx hb dX6_readsDigit_39 (lv_at hl 0 rfl) ?_
        refine lv_iload_n hx hb dX6_readsDigit_41 rfl (lv_at hl 3 rfl) ?_
        refine lv_iload_n hx hb dX6_readsDigit_42 rfl (lv_at hl 4 rfl) ?_
        refine z_rdv (va_runS (As := [.int f_1, .int b, .int m]) (rest := []) ⟨hx, hb, hml, hown, hts⟩ (c_X6_canGrowInto l E f_1 b m (m_cg f_1 b m) rfl) (va_cwS 3 hts gX6_readsDigit_X6_canGrowInto rfl rfl rfl (by decide +kernel) ⟨Nat.le_of_ble_eq_true rfl, Nat.le_of_ble_eq_true rfl⟩) ⟨zPr.blind, z_prer hK zP_nil⟩ rfl rfl hl.1 rfl (lv_room (Nat.le_of_ble_eq_true rfl)) dX6_readsDigit_43 ⟨Nat.le_of_ble_eq_true rfl, Nat.le_of_ble_eq_true rfl⟩) ?_
        refine W.eq (g2 := F0 Mi 46 ls [.int (m_cg f_1 b m)]) rfl ?_
        refine lv_if_ne (tgt := 51) hx hb dX6_readsDigit_46 (by decide) (fun c_46 => ?_) (fun c_46 => ?_)
        · refine lv_aload_n hx hb dX6_readsDigit_51 rfl (lv_at hl 1 rfl) ?_
          refine lv_iload hx hb dX6_readsDigit_52 (lv_at hl 0 rfl) ?_
          refine va_put (D := E.1) (ci := 5) (v := .int f_1) (ty := .int) (C := RX6) (T := TX6) (N := 3) hx hb hts hi_X6 tyX6 tyX6_ok nmX6 hown hK.1 hP hD hS 0 rfl rfl 2 (by decide) (hts (.fieldLink RX6 15 "AltimeterWatch$TripReader" "number" "I") (by decide +kernel)) (fun _ h9 => h9) rfl (by decide +kernel) rfl rfl (Nat.le_of_ble_eq_true rfl) dX6_readsDigit_54 (fun H locs hP hD hS => ?_)
          have hP : va_P E.1 vwCl ([[(h0, .inr (5, [.int pt, .int mi, .int f_1]))]] : List va_W).flatten H := hP
          have hD : va_D A ([[(h0, .inr (5, [.int pt, .int mi, .int f_1]))]] : List va_W).flatten := hD
          refine lv_iconst (v := 1) hx hb dX6_readsDigit_57 (by decide) ?_
          refine z_topi (y := m_rdo nu c b m) (by rw [m_rdo, if_neg c_3, if_neg c_9, if_neg c_16, ← ef_1]; exact ((m_cg01 _ _ _).resolve_left c_46).symm) ?_
          have hP : va_P E.1 vwCl ([[(h0, .inr (5, [.int pt, .int mi, .int f_1]))]] : List va_W).flatten H := zf_sub hP [0] rfl
          have hD : va_D A ([[(h0, .inr (5, [.int pt, .int mi, .int f_1]))]] : List va_W).flatten := zf_subD hD [0] (by decide) rfl
          exact W.zret (v := m_rdo nu c b m) hx hb hr (z_b01 (m_rdo01 _ _ _ _)) (z_end hP hD hS (by rw [m_rdn, if_neg (by rw [m_rdo, if_neg c_3, if_neg c_9, if_neg c_16, ← ef_1]; exact c_46), ← ef_1])) hS.2.2 dX6_readsDigit_58 hlocks
        · refine lv_iconst (v := 0) hx hb dX6_readsDigit_49 (by decide) ?_
          refine z_topi (y := m_rdo nu c b m) (by rw [m_rdo, if_neg c_3, if_neg c_9, if_neg c_16, ← ef_1, c_46]) ?_
          have hP : va_P E.1 vwCl ([[(h0, .inr (5, [.int pt, .int mi, .int nu]))]] : List va_W).flatten H := zf_sub hP [0] rfl
          have hD : va_D A ([[(h0, .inr (5, [.int pt, .int mi, .int nu]))]] : List va_W).flatten := zf_subD hD [0] (by decide) rfl
          exact W.zret (v := m_rdo nu c b m) hx hb hr (z_b01 (m_rdo01 _ _ _ _)) (z_end hP hD hS (by rw [m_rdn, if_pos (by rw [m_rdo, if_neg c_3, if_neg c_9, if_neg c_16, ← ef_1, c_46])])) hS.2.2 dX6_readsDigit_50 hlocks
      · refine lv_iconst (v := 0) hx hb dX6_readsDigit_19 (by decide) ?_
        refine z_topi (y := m_rdo nu c b m) (by rw [m_rdo, if_neg c_3, if_neg c_9, if_pos c_16]) ?_
        have hP : va_P E.1 vwCl ([[(h0, .inr (5, [.int pt, .int mi, .int nu]))]] : List va_W).flatten H := zf_sub hP [0] rfl
        have hD : va_D A ([[(h0, .inr (5, [.int pt, .int mi, .int nu]))]] : List va_W).flatten := zf_subD hD [0] (by decide) rfl
        exact W.zret (v := m_rdo nu c b m) hx hb hr (z_b01 (m_rdo01 _ _ _ _)) (z_end hP hD hS (by rw [m_rdn, if_pos (by rw [m_rdo, if_neg c_3, if_neg c_9, if_pos c_16])])) hS.2.2 dX6_readsDigit_20 hlocks

set_option maxHeartbeats 4000000 in
set_option maxRecDepth 100000 in
theorem c_X6_startsMinutes (l : Launch) (E : zE) (h0 : Nat) (pt mi nu c : Int32) : zM l yX6_startsMinutes wsX6_startsMinutes ({ frames := 2, cells := 0, slots := 0, locals := 49 }) E [.ref h0, .int c] ([[(h0, .inr (5, [.int pt, .int mi, .int nu]))]] : List va_W).flatten (some (.int (m_rdo nu c 1 120))) ([[(h0, .inr (5, [.int (if m_rdo nu c 1 120 = 0 then pt else 1), .int mi, .int (m_rdn nu c 1 120)]))]] : List va_W).flatten 0 0 := by
  refine z_start (cc := cX6_startsMinutes) (maxL := 2) (ret := (some .boolean)) (by decide) rfl (Nat.le_of_ble_eq_true rfl) ?_
  intro Pg En s Mi below meth Cd A hx hb hr hts hown hlocks hin hml hA H hH hP hK hD hS ls hl
  have hl : lv_has ls 2 [(0, .ref h0), (1, .int c)] := hl
  have hi_X6 : ∀ w ∈ wsX60, w ∈ wsX6_startsMinutes := by decide +kernel
  refine lv_aload_n hx hb dX6_startsMinutes_0 rfl (lv_at hl 0 rfl) ?_
  refine lv_iload_n hx hb dX6_startsMinutes_1 rfl (lv_at hl 1 rfl) ?_
  refine lv_iconst (v := 1) hx hb dX6_startsMinutes_2 (by decide) ?_
  refine lv_bipush (v := 120) hx hb dX6_startsMinutes_3 (by decide) ?_
  have hPc : va_P E.1 vwCl ([[(h0, .inr (5, [.int pt, .int mi, .int nu]))]] : List va_W).flatten H := zf_sub hP [0] rfl
  have hDc : va_D A ([[(h0, .inr (5, [.int pt, .int mi, .int nu]))]] : List va_W).flatten := zf_subD hD [0] (by decide) rfl
  refine z_mut (Sc := [[(h0, .inr (5, [.int pt, .int mi, .int nu]))]]) (Sr := []) (W1 := [[(h0, .inr (5, [.int pt, .int mi, .int (m_rdn nu c 1 120)]))]]) (va_runV (As := [.int c, .int 1, .int 120]) (rest := []) ⟨hx, hb, hml, hown, hts⟩ (c_X6_readsDigit l E h0 pt mi nu c 1 120 H.size) (cwV 3 hts gX6_startsMinutes_X6_readsDigit rfl rfl rfl (by decide +kernel) ⟨Nat.le_of_ble_eq_true rfl, Nat.le_of_ble_eq_true rfl⟩) ⟨zP.blind, va_recv hK.1 hPc (ci := 5) (q0 := 0) rfl rfl, z_pre hK hPc hDc⟩ rfl rfl hl.1 rfl (lv_room (Nat.le_of_ble_eq_true rfl)) dX6_startsMinutes_5 ⟨Nat.le_of_ble_eq_true rfl, Nat.le_of_ble_eq_true rfl⟩) hP hD hS hA [0] [] rfl rfl (by decide) (by decide) (fun H locs hP hD hS => ?_)
  have hP : va_P E.1 vwCl ([[(h0, .inr (5, [.int pt, .int mi, .int (m_rdn nu c 1 120)]))]] : List va_W).flatten H := hP
  have hD : va_D A ([[(h0, .inr (5, [.int pt, .int mi, .int (m_rdn nu c 1 120)]))]] : List va_W).flatten := hD
  refine W.eq (g2 := F0 Mi 8 ls [.int (m_rdo nu c 1 120)]) rfl ?_
  refine lv_if_ne (tgt := 13) hx hb dX6_startsMinutes_8 (by decide) (fun c_8 => ?_) (fun c_8 => ?_)
  · refine lv_aload_n hx hb dX6_startsMinutes_13 rfl (lv_at hl 0 rfl) ?_
    refine lv_iconst (v := 1) hx hb dX6_startsMinutes_14 (by decide) ?_
    refine va_put (D := E.1) (ci := 5) (v := .int 1) (ty := .int) (C := RX6) (T := TX6) (N := 3) hx hb hts hi_X6 tyX6 tyX6_ok nmX6 hown hK.1 hP hD hS 0 rfl rfl 0 (by decide) (hts (.fieldLink RX6 11 "AltimeterWatch$TripReader" "part" "I") (by decide +kernel)) (fun _ h9 => h9) rfl (by decide +kernel) rfl rfl (Nat.le_of_ble_eq_true rfl) dX6_startsMinutes_15 (fun H locs hP hD hS => ?_)
    have hP : va_P E.1 vwCl ([[(h0, .inr (5, [.int 1, .int mi, .int (m_rdn nu c 1 120)]))]] : List va_W).flatten H := hP
    have hD : va_D A ([[(h0, .inr (5, [.int 1, .int mi, .int (m_rdn nu c 1 120)]))]] : List va_W).flatten := hD
    refine lv_iconst (v := 1) hx hb dX6_startsMinutes_18 (by decide) ?_
    refine z_topi (y := m_rdo nu c 1 120) ((m_rdo01 _ _ _ _).resolve_left c_8).symm ?_
    have hP : va_P E.1 vwCl ([[(h0, .inr (5, [.int 1, .int mi, .int (m_rdn nu c 1 120)]))]] : List va_W).flatten H := zf_sub hP [0] rfl
    have hD : va_D A ([[(h0, .inr (5, [.int 1, .int mi, .int (m_rdn nu c 1 120)]))]] : List va_W).flatten := zf_subD hD [0] (by decide) rfl
    exact W.zret (v := m_rdo nu c 1 120) hx hb hr (z_b01 (m_rdo01 _ _ _ _)) (z_end hP hD hS (by rw [if_neg c_8])) hS.2.2 dX6_startsMinutes_19 hlocks
  · refine lv_iconst (v := 0) hx hb dX6_startsMinutes_11 (by decide) ?_
    refine z_topi (y := m_rdo nu c 1 120) c_8.symm ?_
    have hP : va_P E.1 vwCl ([[(h0, .inr (5, [.int pt, .int mi, .int (m_rdn nu c 1 120)]))]] : List va_W).flatten H := zf_sub hP [0] rfl
    have hD : va_D A ([[(h0, .inr (5, [.int pt, .int mi, .int (m_rdn nu c 1 120)]))]] : List va_W).flatten := zf_subD hD [0] (by decide) rfl
    exact W.zret (v := m_rdo nu c 1 120) hx hb hr (z_b01 (m_rdo01 _ _ _ _)) (z_end hP hD hS (by rw [if_pos c_8])) hS.2.2 dX6_startsMinutes_12 hlocks

def m_spo (nu c : Int32) : Int32 := if c = 99 then 1 else if c = 109 then 1 else if c = 115 then 1 else m_rdo nu c 1 120
def m_spp (pt nu c : Int32) : Int32 := if c = 99 then 3 else if c = 109 then 5 else if c = 115 then 4 else if m_rdo nu c 1 120 = 0 then pt else 1
def m_spn (nu c : Int32) : Int32 := if c = 99 then nu else if c = 109 then nu else if c = 115 then nu else m_rdn nu c 1 120
theorem m_spo01 (nu c : Int32) : m_spo nu c = 0 ∨ m_spo nu c = 1 := by
  unfold m_spo
  repeat' split
  all_goals first | exact Or.inr rfl | exact m_rdo01 _ _ _ _

set_option maxHeartbeats 4000000 in
set_option maxRecDepth 100000 in
theorem c_X6_startsPart (l : Launch) (E : zE) (h0 : Nat) (pt mi nu c : Int32) : zM l yX6_startsPart wsX6_startsPart ({ frames := 3, cells := 0, slots := 0, locals := 70 }) E [.ref h0, .int c] ([[(h0, .inr (5, [.int pt, .int mi, .int nu]))]] : List va_W).flatten (some (.int (m_spo nu c))) ([[(h0, .inr (5, [.int (m_spp pt nu c), .int mi, .int (m_spn nu c)]))]] : List va_W).flatten 0 0 := by
  refine z_start (cc := cX6_startsPart) (maxL := 2) (ret := (some .boolean)) (by decide) rfl (Nat.le_of_ble_eq_true rfl) ?_
  intro Pg En s Mi below meth Cd A hx hb hr hts hown hlocks hin hml hA H hH hP hK hD hS ls hl
  have hl : lv_has ls 2 [(0, .ref h0), (1, .int c)] := hl
  have hi_X6 : ∀ w ∈ wsX60, w ∈ wsX6_startsPart := by decide +kernel
  refine lv_iload_n hx hb dX6_startsPart_0 rfl (lv_at hl 1 rfl) ?_
  by_cases k0_1 : c = 99
  · refine z_topi k0_1 ?_
    refine lv_lookup (off := 49) (tgt := 50) hx hb dX6_startsPart_1 (by decide) (by decide) (by decide) ?_
    refine lv_aload_n hx hb dX6_startsPart_50 rfl (lv_at hl 0 rfl) ?_
    refine lv_iconst (v := 3) hx hb dX6_startsPart_51 (by decide) ?_
    refine va_put (D := E.1) (ci := 5) (v := .int 3) (ty := .int) (C := RX6) (T := TX6) (N := 3) hx hb hts hi_X6 tyX6 tyX6_ok nmX6 hown hK.1 hP hD hS 0 rfl rfl 0 (by decide) (hts (.fieldLink RX6 11 "AltimeterWatch$TripReader" "part" "I") (by decide +kernel)) (fun _ h9 => h9) rfl (by decide +kernel) rfl rfl (Nat.le_of_ble_eq_true rfl) dX6_startsPart_52 (fun H locs hP hD hS => ?_)
    have hP : va_P E.1 vwCl ([[(h0, .inr (5, [.int 3, .int mi, .int nu]))]] : List va_W).flatten H := hP
    have hD : va_D A ([[(h0, .inr (5, [.int 3, .int mi, .int nu]))]] : List va_W).flatten := hD
    refine lv_iconst (v := 1) hx hb dX6_startsPart_55 (by decide) ?_
    refine z_topi (y := m_spo nu c) (by rw [m_spo, if_pos k0_1]) ?_
    have hP : va_P E.1 vwCl ([[(h0, .inr (5, [.int 3, .int mi, .int nu]))]] : List va_W).flatten H := zf_sub hP [0] rfl
    have hD : va_D A ([[(h0, .inr (5, [.int 3, .int mi, .int nu]))]] : List va_W).flatten := zf_subD hD [0] (by decide) rfl
    exact W.zret (v := m_spo nu c) hx hb hr (z_b01 (m_spo01 _ _)) (z_end hP hD hS (by rw [m_spp, m_spn, if_pos k0_1, if_pos k0_1])) hS.2.2 dX6_startsPart_56 hlocks
  · skip
    by_cases k1_1 : c = 109
    · refine z_topi k1_1 ?_
      refine lv_lookup (off := 42) (tgt := 43) hx hb dX6_startsPart_1 (by decide) (by decide) (by decide) ?_
      refine lv_aload_n hx hb dX6_startsPart_43 rfl (lv_at hl 0 rfl) ?_
      refine lv_iconst (v := 5) hx hb dX6_startsPart_44 (by decide) ?_
      refine va_put (D := E.1) (ci := 5) (v := .int 5) (ty := .int) (C := RX6) (T := TX6) (N := 3) hx hb hts hi_X6 tyX6 tyX6_ok nmX6 hown hK.1 hP hD hS 0 rfl rfl 0 (by decide) (hts (.fieldLink RX6 11 "AltimeterWatch$TripReader" "part" "I") (by decide +kernel)) (fun _ h9 => h9) rfl (by decide +kernel) rfl rfl (Nat.le_of_ble_eq_true rfl) dX6_startsPart_45 (fun H locs hP hD hS => ?_)
      have hP : va_P E.1 vwCl ([[(h0, .inr (5, [.int 5, .int mi, .int nu]))]] : List va_W).flatten H := hP
      have hD : va_D A ([[(h0, .inr (5, [.int 5, .int mi, .int nu]))]] : List va_W).flatten := hD
      refine lv_iconst (v := 1) hx hb dX6_startsPart_48 (by decide) ?_
      refine z_topi (y := m_spo nu c) (by rw [m_spo, if_neg k0_1, if_pos k1_1]) ?_
      have hP : va_P E.1 vwCl ([[(h0, .inr (5, [.int 5, .int mi, .int nu]))]] : List va_W).flatten H := zf_sub hP [0] rfl
      have hD : va_D A ([[(h0, .inr (5, [.int 5, .int mi, .int nu]))]] : List va_W).flatten := zf_subD hD [0] (by decide) rfl
      exact W.zret (v := m_spo nu c) hx hb hr (z_b01 (m_spo01 _ _)) (z_end hP hD hS (by rw [m_spp, m_spn, if_neg k0_1, if_pos k1_1, if_neg k0_1, if_pos k1_1])) hS.2.2 dX6_startsPart_49 hlocks
    · skip
      by_cases k2_1 : c = 115
      · refine z_topi k2_1 ?_
        refine lv_lookup (off := 35) (tgt := 36) hx hb dX6_startsPart_1 (by decide) (by decide) (by decide) ?_
        refine lv_aload_n hx hb dX6_startsPart_36 rfl (lv_at hl 0 rfl) ?_
        refine lv_iconst (v := 4) hx hb dX6_startsPart_37 (by decide) ?_
        refine va_put (D := E.1) (ci := 5) (v := .int 4) (ty := .int) (C := RX6) (T := TX6) (N := 3) hx hb hts hi_X6 tyX6 tyX6_ok nmX6 hown hK.1 hP hD hS 0 rfl rfl 0 (by decide) (hts (.fieldLink RX6 11 "AltimeterWatch$TripReader" "part" "I") (by decide +kernel)) (fun _ h9 => h9) rfl (by decide +kernel) rfl rfl (Nat.le_of_ble_eq_true rfl) dX6_startsPart_38 (fun H locs hP hD hS => ?_)
        have hP : va_P E.1 vwCl ([[(h0, .inr (5, [.int 4, .int mi, .int nu]))]] : List va_W).flatten H := hP
        have hD : va_D A ([[(h0, .inr (5, [.int 4, .int mi, .int nu]))]] : List va_W).flatten := hD
        refine lv_iconst (v := 1) hx hb dX6_startsPart_41 (by decide) ?_
        refine z_topi (y := m_spo nu c) (by rw [m_spo, if_neg k0_1, if_neg k1_1, if_pos k2_1]) ?_
        have hP : va_P E.1 vwCl ([[(h0, .inr (5, [.int 4, .int mi, .int nu]))]] : List va_W).flatten H := zf_sub hP [0] rfl
        have hD : va_D A ([[(h0, .inr (5, [.int 4, .int mi, .int nu]))]] : List va_W).flatten := zf_subD hD [0] (by decide) rfl
        exact W.zret (v := m_spo nu c) hx hb hr (z_b01 (m_spo01 _ _)) (z_end hP hD hS (by rw [m_spp, m_spn, if_neg k0_1, if_neg k1_1, if_pos k2_1, if_neg k0_1, if_neg k1_1, if_pos k2_1])) hS.2.2 dX6_startsPart_42 hlocks
      · refine lv_lookup (off := 56) (tgt := 57) hx hb dX6_startsPart_1 (by decide) ((lv_osw (a := 99) k0_1 rfl).trans ((lv_osw (a := 109) k1_1 rfl).trans ((lv_osw (a := 115) k2_1 rfl).trans rfl))) (by decide) ?_
        refine lv_aload_n hx hb dX6_startsPart_57 rfl (lv_at hl 0 rfl) ?_
        refine lv_iload_n hx hb dX6_startsPart_58 rfl (lv_at hl 1 rfl) ?_
        have hPc : va_P E.1 vwCl ([[(h0, .inr (5, [.int pt, .int mi, .int nu]))]] : List va_W).flatten H := zf_sub hP [0] rfl
        have hDc : va_D A ([[(h0, .inr (5, [.int pt, .int mi, .int nu]))]] : List va_W).flatten := zf_subD hD [0] (by decide) rfl
        refine z_mut (Sc := [[(h0, .inr (5, [.int pt, .int mi, .int nu]))]]) (Sr := []) (W1 := [[(h0, .inr (5, [.int (if m_rdo nu c 1 120 = 0 then pt else 1), .int mi, .int (m_rdn nu c 1 120)]))]]) (va_runV (As := [.int c]) (rest := []) ⟨hx, hb, hml, hown, hts⟩ (c_X6_startsMinutes l E h0 pt mi nu c H.size) (cwV 1 hts gX6_startsPart_X6_startsMinutes rfl rfl rfl (by decide +kernel) ⟨Nat.le_of_ble_eq_true rfl, Nat.le_of_ble_eq_true rfl⟩) ⟨zP.blind, va_recv hK.1 hPc (ci := 5) (q0 := 0) rfl rfl, z_pre hK hPc hDc⟩ rfl rfl hl.1 rfl (lv_room (Nat.le_of_ble_eq_true rfl)) dX6_startsPart_59 ⟨Nat.le_of_ble_eq_true rfl, Nat.le_of_ble_eq_true rfl⟩) hP hD hS hA [0] [] rfl rfl (by decide) (by decide) (fun H locs hP hD hS => ?_)
        have hP : va_P E.1 vwCl ([[(h0, .inr (5, [.int (if m_rdo nu c 1 120 = 0 then pt else 1), .int mi, .int (m_rdn nu c 1 120)]))]] : List va_W).flatten H := hP
        have hD : va_D A ([[(h0, .inr (5, [.int (if m_rdo nu c 1 120 = 0 then pt else 1), .int mi, .int (m_rdn nu c 1 120)]))]] : List va_W).flatten := hD
        refine W.eq (g2 := F0 Mi 62 ls [.int (m_rdo nu c 1 120)]) rfl ?_
        refine z_topi (y := m_spo nu c) (by rw [m_spo, if_neg k0_1, if_neg k1_1, if_neg k2_1]) ?_
        have hP : va_P E.1 vwCl ([[(h0, .inr (5, [.int (if m_rdo nu c 1 120 = 0 then pt else 1), .int mi, .int (m_rdn nu c 1 120)]))]] : List va_W).flatten H := zf_sub hP [0] rfl
        have hD : va_D A ([[(h0, .inr (5, [.int (if m_rdo nu c 1 120 = 0 then pt else 1), .int mi, .int (m_rdn nu c 1 120)]))]] : List va_W).flatten := zf_subD hD [0] (by decide) rfl
        exact W.zret (v := m_spo nu c) hx hb hr (z_b01 (m_spo01 _ _)) (z_end hP hD hS (by rw [m_spp, m_spn, if_neg k0_1, if_neg k1_1, if_neg k2_1, if_neg k0_1, if_neg k1_1, if_neg k2_1])) hS.2.2 dX6_startsPart_62 hlocks

set_option maxHeartbeats 4000000 in
set_option maxRecDepth 100000 in
theorem c_X6_endsMinutes (l : Launch) (E : zE) (h0 : Nat) (pt mi nu : Int32) : zM l yX6_endsMinutes wsX6_endsMinutes ({ frames := 0, cells := 0, slots := 0, locals := 0 }) E [.ref h0] ([[(h0, .inr (5, [.int pt, .int mi, .int nu]))]] : List va_W).flatten (some (.int 1)) ([[(h0, .inr (5, [.int 2, .int nu, .int (-1)]))]] : List va_W).flatten 0 0 := by
  refine z_start (cc := cX6_endsMinutes) (maxL := 1) (ret := (some .boolean)) (by decide) rfl (Nat.le_of_ble_eq_true rfl) ?_
  intro Pg En s Mi below meth Cd A hx hb hr hts hown hlocks hin hml hA H hH hP hK hD hS ls hl
  have hl : lv_has ls 1 [(0, .ref h0)] := hl
  have hi_X6 : ∀ w ∈ wsX60, w ∈ wsX6_endsMinutes := by decide +kernel
  refine lv_aload_n hx hb dX6_endsMinutes_0 rfl (lv_at hl 0 rfl) ?_
  refine lv_aload_n hx hb dX6_endsMinutes_1 rfl (lv_at hl 0 rfl) ?_
  refine va_get (D := E.1) (ci := 5) (v := .int nu) (C := RX6) (T := TX6) (N := 3) hx hb hts hi_X6 hown hK.1 hP 0 rfl rfl 2 (by decide) (hts (.fieldLink RX6 15 "AltimeterWatch$TripReader" "number" "I") (by decide +kernel)) (fun _ h9 => h9) rfl dX6_endsMinutes_2 ?_
  refine va_put (D := E.1) (ci := 5) (v := .int nu) (ty := .int) (C := RX6) (T := TX6) (N := 3) hx hb hts hi_X6 tyX6 tyX6_ok nmX6 hown hK.1 hP hD hS 0 rfl rfl 1 (by decide) (hts (.fieldLink RX6 37 "AltimeterWatch$TripReader" "minutes" "I") (by decide +kernel)) (fun _ h9 => h9) rfl (by decide +kernel) rfl rfl (Nat.le_of_ble_eq_true rfl) dX6_endsMinutes_5 (fun H locs hP hD hS => ?_)
  have hP : va_P E.1 vwCl ([[(h0, .inr (5, [.int pt, .int nu, .int nu]))]] : List va_W).flatten H := hP
  have hD : va_D A ([[(h0, .inr (5, [.int pt, .int nu, .int nu]))]] : List va_W).flatten := hD
  refine lv_aload_n hx hb dX6_endsMinutes_8 rfl (lv_at hl 0 rfl) ?_
  refine lv_iconst (v := (-1)) hx hb dX6_endsMinutes_9 (by decide) ?_
  refine va_put (D := E.1) (ci := 5) (v := .int (-1)) (ty := .int) (C := RX6) (T := TX6) (N := 3) hx hb hts hi_X6 tyX6 tyX6_ok nmX6 hown hK.1 hP hD hS 0 rfl rfl 2 (by decide) (hts (.fieldLink RX6 15 "AltimeterWatch$TripReader" "number" "I") (by decide +kernel)) (fun _ h9 => h9) rfl (by decide +kernel) rfl rfl (Nat.le_of_ble_eq_true rfl) dX6_endsMinutes_10 (fun H locs hP hD hS => ?_)
  have hP : va_P E.1 vwCl ([[(h0, .inr (5, [.int pt, .int nu, .int (-1)]))]] : List va_W).flatten H := hP
  have hD : va_D A ([[(h0, .inr (5, [.int pt, .int nu, .int (-1)]))]] : List va_W).flatten := hD
  refine lv_aload_n hx hb dX6_endsMinutes_13 rfl (lv_at hl 0 rfl) ?_
  refine lv_iconst (v := 2) hx hb dX6_endsMinutes_14 (by decide) ?_
  refine va_put (D := E.1) (ci := 5) (v := .int 2) (ty := .int) (C := RX6) (T := TX6) (N := 3) hx hb hts hi_X6 tyX6 tyX6_ok nmX6 hown hK.1 hP hD hS 0 rfl rfl 0 (by decide) (hts (.fieldLink RX6 11 "AltimeterWatch$TripReader" "part" "I") (by decide +kernel)) (fun _ h9 => h9) rfl (by decide +kernel) rfl rfl (Nat.le_of_ble_eq_true rfl) dX6_endsMinutes_15 (fun H locs hP hD hS => ?_)
  have hP : va_P E.1 vwCl ([[(h0, .inr (5, [.int 2, .int nu, .int (-1)]))]] : List va_W).flatten H := hP
  have hD : va_D A ([[(h0, .inr (5, [.int 2, .int nu, .int (-1)]))]] : List va_W).flatten := hD
  refine lv_iconst (v := 1) hx hb dX6_endsMinutes_18 (by decide) ?_
  have hP : va_P E.1 vwCl ([[(h0, .inr (5, [.int 2, .int nu, .int (-1)]))]] : List va_W).flatten H := zf_sub hP [0] rfl
  have hD : va_D A ([[(h0, .inr (5, [.int 2, .int nu, .int (-1)]))]] : List va_W).flatten := zf_subD hD [0] (by decide) rfl
  exact W.zret (v := 1) hx hb hr rfl (z_end hP hD hS rfl) hS.2.2 dX6_endsMinutes_19 hlocks

set_option maxHeartbeats 4000000 in
set_option maxRecDepth 100000 in
theorem c_X6_isPartWhole (l : Launch) (E : zE) (h0 : Nat) (pt mi nu : Int32) (hpt : m_pt pt) : zR l yX6_isPartWhole wsX6_isPartWhole ({ frames := 0, cells := 0, slots := 0, locals := 0 }) E [.ref h0] ([[(h0, .inr (5, [.int pt, .int mi, .int nu]))]] : List va_W).flatten (some (.int (m_pw pt nu))) := by
  refine z_startr (cc := cX6_isPartWhole) (maxL := 1) (ret := (some .boolean)) (by decide) rfl (Nat.le_of_ble_eq_true rfl) ?_
  intro Pg En s Mi below meth Cd hx hb hr hts hown hlocks hml hP hK ls hl
  have hl : lv_has ls 1 [(0, .ref h0)] := hl
  have hi_X6 : ∀ w ∈ wsX60, w ∈ wsX6_isPartWhole := by decide +kernel
  refine lv_aload_n hx hb dX6_isPartWhole_0 rfl (lv_at hl 0 rfl) ?_
  refine va_get (D := E.1) (ci := 5) (v := .int pt) (C := RX6) (T := TX6) (N := 3) hx hb hts hi_X6 hown hK.1 hP 0 rfl rfl 0 (by decide) (hts (.fieldLink RX6 11 "AltimeterWatch$TripReader" "part" "I") (by decide +kernel)) (fun _ h9 => h9) rfl dX6_isPartWhole_1 ?_
  rcases hpt with e_4 | e_4 | e_4 | e_4 | e_4 | e_4
  · refine z_topi e_4 ?_
    refine lv_tableOut (tgt := 67) hx hb dX6_isPartWhole_4 (by decide) (by decide) ?_
    refine lv_iconst (v := 0) hx hb dX6_isPartWhole_67 (by decide) ?_
    refine z_topi (y := m_pw pt nu) (by rw [e_4, m_pw]; first | rfl | (simp; done)) ?_
    exact W.zret (v := m_pw pt nu) hx hb hr (z_b01 (m_pw01 _ _)) z_endR (fun _ h => by cases h) dX6_isPartWhole_68 hlocks
  · refine z_topi e_4 ?_
    refine lv_tableOut (tgt := 67) hx hb dX6_isPartWhole_4 (by decide) (by decide) ?_
    refine lv_iconst (v := 0) hx hb dX6_isPartWhole_67 (by decide) ?_
    refine z_topi (y := m_pw pt nu) (by rw [e_4, m_pw]; first | rfl | (simp; done)) ?_
    exact W.zret (v := m_pw pt nu) hx hb hr (z_b01 (m_pw01 _ _)) z_endR (fun _ h => by cases h) dX6_isPartWhole_68 hlocks
  · refine z_topi e_4 ?_
    refine lv_tableIn (off := 32) (tgt := 36) hx hb dX6_isPartWhole_4 (by decide) (by decide) rfl (by decide) ?_
    refine lv_aload_n hx hb dX6_isPartWhole_36 rfl (lv_at hl 0 rfl) ?_
    refine va_get (D := E.1) (ci := 5) (v := .int nu) (C := RX6) (T := TX6) (N := 3) hx hb hts hi_X6 hown hK.1 hP 0 rfl rfl 2 (by decide) (hts (.fieldLink RX6 15 "AltimeterWatch$TripReader" "number" "I") (by decide +kernel)) (fun _ h9 => h9) rfl dX6_isPartWhole_37 ?_
    refine lv_sipush (v := 5000) hx hb dX6_isPartWhole_40 (by decide) ?_
    refine lv_icmp_lt (tgt := 50) hx hb dX6_isPartWhole_43 (by decide) (fun c_43 => ?_) (fun c_43 => ?_)
    · refine lv_iconst (v := 0) hx hb dX6_isPartWhole_50 (by decide) ?_
      refine z_topi (y := m_pw pt nu) (by rw [e_4, m_pw]; first | rfl | (simp; done) | (rw [if_pos rfl, if_neg (Int32.not_le.mpr c_43)]; done) | (rw [if_neg (by decide), if_pos rfl, if_neg (Int32.not_le.mpr c_43)]; done)) ?_
      exact W.zret (v := m_pw pt nu) hx hb hr (z_b01 (m_pw01 _ _)) z_endR (fun _ h => by cases h) dX6_isPartWhole_51 hlocks
    · refine lv_iconst (v := 1) hx hb dX6_isPartWhole_46 (by decide) ?_
      refine lv_goto (tgt := 51) hx hb dX6_isPartWhole_47 (by decide) ?_
      refine z_topi (y := m_pw pt nu) (by rw [e_4, m_pw]; first | rfl | (simp; done) | (rw [if_pos rfl, if_pos (Int32.not_lt.mp c_43)]; done) | (rw [if_neg (by decide), if_pos rfl, if_pos (Int32.not_lt.mp c_43)]; done)) ?_
      exact W.zret (v := m_pw pt nu) hx hb hr (z_b01 (m_pw01 _ _)) z_endR (fun _ h => by cases h) dX6_isPartWhole_51 hlocks
  · refine z_topi e_4 ?_
    refine lv_tableIn (off := 48) (tgt := 52) hx hb dX6_isPartWhole_4 (by decide) (by decide) rfl (by decide) ?_
    refine lv_aload_n hx hb dX6_isPartWhole_52 rfl (lv_at hl 0 rfl) ?_
    refine va_get (D := E.1) (ci := 5) (v := .int nu) (C := RX6) (T := TX6) (N := 3) hx hb hts hi_X6 hown hK.1 hP 0 rfl rfl 2 (by decide) (hts (.fieldLink RX6 15 "AltimeterWatch$TripReader" "number" "I") (by decide +kernel)) (fun _ h9 => h9) rfl dX6_isPartWhole_53 ?_
    refine lv_if_lt (tgt := 63) hx hb dX6_isPartWhole_56 (by decide) (fun c_56 => ?_) (fun c_56 => ?_)
    · refine lv_iconst (v := 0) hx hb dX6_isPartWhole_63 (by decide) ?_
      refine z_topi (y := m_pw pt nu) (by rw [e_4, m_pw]; first | rfl | (simp; done) | (rw [if_pos rfl, if_neg (Int32.not_le.mpr c_56)]; done) | (rw [if_neg (by decide), if_pos rfl, if_neg (Int32.not_le.mpr c_56)]; done)) ?_
      exact W.zret (v := m_pw pt nu) hx hb hr (z_b01 (m_pw01 _ _)) z_endR (fun _ h => by cases h) dX6_isPartWhole_64 hlocks
    · refine lv_iconst (v := 1) hx hb dX6_isPartWhole_59 (by decide) ?_
      refine lv_goto (tgt := 64) hx hb dX6_isPartWhole_60 (by decide) ?_
      refine z_topi (y := m_pw pt nu) (by rw [e_4, m_pw]; first | rfl | (simp; done) | (rw [if_pos rfl, if_pos (Int32.not_lt.mp c_56)]; done) | (rw [if_neg (by decide), if_pos rfl, if_pos (Int32.not_lt.mp c_56)]; done)) ?_
      exact W.zret (v := m_pw pt nu) hx hb hr (z_b01 (m_pw01 _ _)) z_endR (fun _ h => by cases h) dX6_isPartWhole_64 hlocks
  · refine z_topi e_4 ?_
    refine lv_tableIn (off := 61) (tgt := 65) hx hb dX6_isPartWhole_4 (by decide) (by decide) rfl (by decide) ?_
    refine lv_iconst (v := 1) hx hb dX6_isPartWhole_65 (by decide) ?_
    refine z_topi (y := m_pw pt nu) (by rw [e_4, m_pw]; first | rfl | (simp; done)) ?_
    exact W.zret (v := m_pw pt nu) hx hb hr (z_b01 (m_pw01 _ _)) z_endR (fun _ h => by cases h) dX6_isPartWhole_66 hlocks
  · refine z_topi e_4 ?_
    refine lv_tableIn (off := 61) (tgt := 65) hx hb dX6_isPartWhole_4 (by decide) (by decide) rfl (by decide) ?_
    refine lv_iconst (v := 1) hx hb dX6_isPartWhole_65 (by decide) ?_
    refine z_topi (y := m_pw pt nu) (by rw [e_4, m_pw]; first | rfl | (simp; done)) ?_
    exact W.zret (v := m_pw pt nu) hx hb hr (z_b01 (m_pw01 _ _)) z_endR (fun _ h => by cases h) dX6_isPartWhole_66 hlocks

set_option maxHeartbeats 4000000 in
set_option maxRecDepth 100000 in
theorem c_X6_endsPart (l : Launch) (E : zE) (h0 : Nat) (pt mi nu : Int32) (hpt : m_pt pt) : zM l yX6_endsPart wsX6_endsPart ({ frames := 1, cells := 0, slots := 0, locals := 20 }) E [.ref h0] ([[(h0, .inr (5, [.int pt, .int mi, .int nu]))]] : List va_W).flatten (some (.int (m_pw pt nu))) ([[(h0, .inr (5, [.int (if m_pw pt nu = 0 then pt else 0), .int mi, .int (if m_pw pt nu = 0 then nu else -1)]))]] : List va_W).flatten 0 0 := by
  refine z_start (cc := cX6_endsPart) (maxL := 1) (ret := (some .boolean)) (by decide) rfl (Nat.le_of_ble_eq_true rfl) ?_
  intro Pg En s Mi below meth Cd A hx hb hr hts hown hlocks hin hml hA H hH hP hK hD hS ls hl
  have hl : lv_has ls 1 [(0, .ref h0)] := hl
  have hi_X6 : ∀ w ∈ wsX60, w ∈ wsX6_endsPart := by decide +kernel
  refine lv_aload_n hx hb dX6_endsPart_0 rfl (lv_at hl 0 rfl) ?_
  have hPc : va_P E.1 vwCl ([[(h0, .inr (5, [.int pt, .int mi, .int nu]))]] : List va_W).flatten H := zf_sub hP [0] rfl
  refine z_rdv (va_runV (As := []) (rest := []) ⟨hx, hb, hml, hown, hts⟩ (c_X6_isPartWhole l E h0 pt mi nu hpt) (cwV 0 hts gX6_endsPart_X6_isPartWhole rfl rfl rfl (by decide +kernel) ⟨Nat.le_of_ble_eq_true rfl, Nat.le_of_ble_eq_true rfl⟩) ⟨zPr.blind, va_recv hK.1 hPc (ci := 5) (q0 := 0) rfl rfl, z_prer hK hPc⟩ rfl rfl hl.1 rfl (lv_room (Nat.le_of_ble_eq_true rfl)) dX6_endsPart_1 ⟨Nat.le_of_ble_eq_true rfl, Nat.le_of_ble_eq_true rfl⟩) ?_
  refine W.eq (g2 := F0 Mi 4 ls [.int (m_pw pt nu)]) rfl ?_
  refine lv_if_ne (tgt := 9) hx hb dX6_endsPart_4 (by decide) (fun c_4 => ?_) (fun c_4 => ?_)
  · refine lv_aload_n hx hb dX6_endsPart_9 rfl (lv_at hl 0 rfl) ?_
    refine lv_iconst (v := (-1)) hx hb dX6_endsPart_10 (by decide) ?_
    refine va_put (D := E.1) (ci := 5) (v := .int (-1)) (ty := .int) (C := RX6) (T := TX6) (N := 3) hx hb hts hi_X6 tyX6 tyX6_ok nmX6 hown hK.1 hP hD hS 0 rfl rfl 2 (by decide) (hts (.fieldLink RX6 15 "AltimeterWatch$TripReader" "number" "I") (by decide +kernel)) (fun _ h9 => h9) rfl (by decide +kernel) rfl rfl (Nat.le_of_ble_eq_true rfl) dX6_endsPart_11 (fun H locs hP hD hS => ?_)
    have hP : va_P E.1 vwCl ([[(h0, .inr (5, [.int pt, .int mi, .int (-1)]))]] : List va_W).flatten H := hP
    have hD : va_D A ([[(h0, .inr (5, [.int pt, .int mi, .int (-1)]))]] : List va_W).flatten := hD
    refine lv_aload_n hx hb dX6_endsPart_14 rfl (lv_at hl 0 rfl) ?_
    refine lv_iconst (v := 0) hx hb dX6_endsPart_15 (by decide) ?_
    refine va_put (D := E.1) (ci := 5) (v := .int 0) (ty := .int) (C := RX6) (T := TX6) (N := 3) hx hb hts hi_X6 tyX6 tyX6_ok nmX6 hown hK.1 hP hD hS 0 rfl rfl 0 (by decide) (hts (.fieldLink RX6 11 "AltimeterWatch$TripReader" "part" "I") (by decide +kernel)) (fun _ h9 => h9) rfl (by decide +kernel) rfl rfl (Nat.le_of_ble_eq_true rfl) dX6_endsPart_16 (fun H locs hP hD hS => ?_)
    have hP : va_P E.1 vwCl ([[(h0, .inr (5, [.int 0, .int mi, .int (-1)]))]] : List va_W).flatten H := hP
    have hD : va_D A ([[(h0, .inr (5, [.int 0, .int mi, .int (-1)]))]] : List va_W).flatten := hD
    refine lv_iconst (v := 1) hx hb dX6_endsPart_19 (by decide) ?_
    refine z_topi (y := m_pw pt nu) ((m_pw01 _ _).resolve_left c_4).symm ?_
    have hP : va_P E.1 vwCl ([[(h0, .inr (5, [.int 0, .int mi, .int (-1)]))]] : List va_W).flatten H := zf_sub hP [0] rfl
    have hD : va_D A ([[(h0, .inr (5, [.int 0, .int mi, .int (-1)]))]] : List va_W).flatten := zf_subD hD [0] (by decide) rfl
    exact W.zret (v := m_pw pt nu) hx hb hr (z_b01 (m_pw01 _ _)) (z_end hP hD hS (by rw [if_neg c_4, if_neg c_4])) hS.2.2 dX6_endsPart_20 hlocks
  · refine lv_iconst (v := 0) hx hb dX6_endsPart_7 (by decide) ?_
    refine z_topi (y := m_pw pt nu) c_4.symm ?_
    have hP : va_P E.1 vwCl ([[(h0, .inr (5, [.int pt, .int mi, .int nu]))]] : List va_W).flatten H := zf_sub hP [0] rfl
    have hD : va_D A ([[(h0, .inr (5, [.int pt, .int mi, .int nu]))]] : List va_W).flatten := zf_subD hD [0] (by decide) rfl
    exact W.zret (v := m_pw pt nu) hx hb hr (z_b01 (m_pw01 _ _)) (z_end hP hD hS (by rw [if_pos c_4, if_pos c_4])) hS.2.2 dX6_endsPart_8 hlocks

set_option maxHeartbeats 4000000 in
set_option maxRecDepth 100000 in
theorem c_X6_reads (l : Launch) (E : zE) (h0 : Nat) (pt mi nu c : Int32) (hpt : m_pt pt) : zM l yX6_reads wsX6_reads ({ frames := 4, cells := 0, slots := 0, locals := 91 }) E [.ref h0, .int c] ([[(h0, .inr (5, [.int pt, .int mi, .int nu]))]] : List va_W).flatten (some (.int (m_rso pt nu c))) ([[(h0, .inr (5, [.int (m_rsp pt nu c), .int (m_rsm pt mi nu c), .int (m_rsn pt nu c)]))]] : List va_W).flatten 0 0 := by
  refine z_start (cc := cX6_reads) (maxL := 2) (ret := (some .boolean)) (by decide) rfl (Nat.le_of_ble_eq_true rfl) ?_
  intro Pg En s Mi below meth Cd A hx hb hr hts hown hlocks hin hml hA H hH hP hK hD hS ls hl
  have hl : lv_has ls 2 [(0, .ref h0), (1, .int c)] := hl
  have hi_X6 : ∀ w ∈ wsX60, w ∈ wsX6_reads := by decide +kernel
  refine lv_iload_n hx hb dX6_reads_0 rfl (lv_at hl 1 rfl) ?_
  refine lv_bipush (v := 59) hx hb dX6_reads_1 (by decide) ?_
  refine lv_icmp_ne (tgt := 11) hx hb dX6_reads_3 (by decide) (fun c_3 => ?_) (fun c_3 => ?_)
  · refine lv_aload_n hx hb dX6_reads_11 rfl (lv_at hl 0 rfl) ?_
    refine va_get (D := E.1) (ci := 5) (v := .int pt) (C := RX6) (T := TX6) (N := 3) hx hb hts hi_X6 hown hK.1 hP 0 rfl rfl 0 (by decide) (hts (.fieldLink RX6 11 "AltimeterWatch$TripReader" "part" "I") (by decide +kernel)) (fun _ h9 => h9) rfl dX6_reads_12 ?_
    rcases hpt with e_15 | e_15 | e_15 | e_15 | e_15 | e_15
    · refine z_topi e_15 ?_
      refine lv_tableIn (off := 29) (tgt := 44) hx hb dX6_reads_15 (by decide) (by decide) rfl (by decide) ?_
      refine lv_aload_n hx hb dX6_reads_44 rfl (lv_at hl 0 rfl) ?_
      refine lv_iload_n hx hb dX6_reads_45 rfl (lv_at hl 1 rfl) ?_
      have hPc : va_P E.1 vwCl ([[(h0, .inr (5, [.int pt, .int mi, .int nu]))]] : List va_W).flatten H := zf_sub hP [0] rfl
      have hDc : va_D A ([[(h0, .inr (5, [.int pt, .int mi, .int nu]))]] : List va_W).flatten := zf_subD hD [0] (by decide) rfl
      refine z_mut (Sc := [[(h0, .inr (5, [.int pt, .int mi, .int nu]))]]) (Sr := []) (W1 := [[(h0, .inr (5, [.int (m_spp pt nu c), .int mi, .int (m_spn nu c)]))]]) (va_runV (As := [.int c]) (rest := []) ⟨hx, hb, hml, hown, hts⟩ (c_X6_startsPart l E h0 pt mi nu c H.size) (cwV 1 hts gX6_reads_X6_startsPart rfl rfl rfl (by decide +kernel) ⟨Nat.le_of_ble_eq_true rfl, Nat.le_of_ble_eq_true rfl⟩) ⟨zP.blind, va_recv hK.1 hPc (ci := 5) (q0 := 0) rfl rfl, z_pre hK hPc hDc⟩ rfl rfl hl.1 rfl (lv_room (Nat.le_of_ble_eq_true rfl)) dX6_reads_46 ⟨Nat.le_of_ble_eq_true rfl, Nat.le_of_ble_eq_true rfl⟩) hP hD hS hA [0] [] rfl rfl (by decide) (by decide) (fun H locs hP hD hS => ?_)
      have hP : va_P E.1 vwCl ([[(h0, .inr (5, [.int (m_spp pt nu c), .int mi, .int (m_spn nu c)]))]] : List va_W).flatten H := hP
      have hD : va_D A ([[(h0, .inr (5, [.int (m_spp pt nu c), .int mi, .int (m_spn nu c)]))]] : List va_W).flatten := hD
      refine W.eq (g2 := F0 Mi 49 ls [.int (m_spo nu c)]) rfl ?_
      refine z_topi (y := m_rso pt nu c) (by simp only [m_rso, if_neg c_3, e_15]; first | done | rfl | (simp [m_spo, m_spp, m_spn]; done)) ?_
      have hP : va_P E.1 vwCl ([[(h0, .inr (5, [.int (m_spp pt nu c), .int mi, .int (m_spn nu c)]))]] : List va_W).flatten H := zf_sub hP [0] rfl
      have hD : va_D A ([[(h0, .inr (5, [.int (m_spp pt nu c), .int mi, .int (m_spn nu c)]))]] : List va_W).flatten := zf_subD hD [0] (by decide) rfl
      exact W.zret (v := m_rso pt nu c) hx hb hr (z_b01 (m_rso01 _ _ _)) (z_end hP hD hS (by simp only [m_rsp, m_rsm, m_rsn, if_neg c_3, e_15]; first | done | rfl | (simp [m_spo, m_spp, m_spn]; done))) hS.2.2 dX6_reads_49 hlocks
    · refine z_topi e_15 ?_
      refine lv_tableIn (off := 35) (tgt := 50) hx hb dX6_reads_15 (by decide) (by decide) rfl (by decide) ?_
      refine lv_iload_n hx hb dX6_reads_50 rfl (lv_at hl 1 rfl) ?_
      refine lv_bipush (v := 62) hx hb dX6_reads_51 (by decide) ?_
      refine lv_icmp_ne (tgt := 63) hx hb dX6_reads_53 (by decide) (fun c_53 => ?_) (fun c_53 => ?_)
      · refine lv_aload_n hx hb dX6_reads_63 rfl (lv_at hl 0 rfl) ?_
        refine lv_iload_n hx hb dX6_reads_64 rfl (lv_at hl 1 rfl) ?_
        refine lv_iconst (v := 1) hx hb dX6_reads_65 (by decide) ?_
        refine lv_bipush (v := 120) hx hb dX6_reads_66 (by decide) ?_
        have hPc : va_P E.1 vwCl ([[(h0, .inr (5, [.int pt, .int mi, .int nu]))]] : List va_W).flatten H := zf_sub hP [0] rfl
        have hDc : va_D A ([[(h0, .inr (5, [.int pt, .int mi, .int nu]))]] : List va_W).flatten := zf_subD hD [0] (by decide) rfl
        refine z_mut (Sc := [[(h0, .inr (5, [.int pt, .int mi, .int nu]))]]) (Sr := []) (W1 := [[(h0, .inr (5, [.int pt, .int mi, .int (m_rdn nu c 1 120)]))]]) (va_runV (As := [.int c, .int 1, .int 120]) (rest := []) ⟨hx, hb, hml, hown, hts⟩ (c_X6_readsDigit l E h0 pt mi nu c 1 120 H.size) (cwV 3 hts gX6_reads_X6_readsDigit rfl rfl rfl (by decide +kernel) ⟨Nat.le_of_ble_eq_true rfl, Nat.le_of_ble_eq_true rfl⟩) ⟨zP.blind, va_recv hK.1 hPc (ci := 5) (q0 := 0) rfl rfl, z_pre hK hPc hDc⟩ rfl rfl hl.1 rfl (lv_room (Nat.le_of_ble_eq_true rfl)) dX6_reads_68 ⟨Nat.le_of_ble_eq_true rfl, Nat.le_of_ble_eq_true rfl⟩) hP hD hS hA [0] [] rfl rfl (by decide) (by decide) (fun H locs hP hD hS => ?_)
        have hP : va_P E.1 vwCl ([[(h0, .inr (5, [.int pt, .int mi, .int (m_rdn nu c 1 120)]))]] : List va_W).flatten H := hP
        have hD : va_D A ([[(h0, .inr (5, [.int pt, .int mi, .int (m_rdn nu c 1 120)]))]] : List va_W).flatten := hD
        refine W.eq (g2 := F0 Mi 71 ls [.int (m_rdo nu c 1 120)]) rfl ?_
        refine z_topi (y := m_rso pt nu c) (by simp only [m_rso, if_neg c_3, e_15, if_neg c_53]; first | done | rfl | (simp [m_spo, m_spp, m_spn]; done)) ?_
        have hP : va_P E.1 vwCl ([[(h0, .inr (5, [.int pt, .int mi, .int (m_rdn nu c 1 120)]))]] : List va_W).flatten H := zf_sub hP [0] rfl
        have hD : va_D A ([[(h0, .inr (5, [.int pt, .int mi, .int (m_rdn nu c 1 120)]))]] : List va_W).flatten := zf_subD hD [0] (by decide) rfl
        exact W.zret (v := m_rso pt nu c) hx hb hr (z_b01 (m_rso01 _ _ _)) (z_end hP hD hS (by simp only [m_rsp, m_rsm, m_rsn, if_neg c_3, e_15, if_neg c_53]; first | done | rfl | (simp [m_spo, m_spp, m_spn]; done))) hS.2.2 dX6_reads_71 hlocks
      · refine lv_aload_n hx hb dX6_reads_56 rfl (lv_at hl 0 rfl) ?_
        have hPc : va_P E.1 vwCl ([[(h0, .inr (5, [.int pt, .int mi, .int nu]))]] : List va_W).flatten H := zf_sub hP [0] rfl
        have hDc : va_D A ([[(h0, .inr (5, [.int pt, .int mi, .int nu]))]] : List va_W).flatten := zf_subD hD [0] (by decide) rfl
        refine z_mut (Sc := [[(h0, .inr (5, [.int pt, .int mi, .int nu]))]]) (Sr := []) (W1 := [[(h0, .inr (5, [.int 2, .int nu, .int (-1)]))]]) (va_runV (As := []) (rest := []) ⟨hx, hb, hml, hown, hts⟩ (c_X6_endsMinutes l E h0 pt mi nu H.size) (cwV 0 hts gX6_reads_X6_endsMinutes rfl rfl rfl (by decide +kernel) ⟨Nat.le_of_ble_eq_true rfl, Nat.le_of_ble_eq_true rfl⟩) ⟨zP.blind, va_recv hK.1 hPc (ci := 5) (q0 := 0) rfl rfl, z_pre hK hPc hDc⟩ rfl rfl hl.1 rfl (lv_room (Nat.le_of_ble_eq_true rfl)) dX6_reads_57 ⟨Nat.le_of_ble_eq_true rfl, Nat.le_of_ble_eq_true rfl⟩) hP hD hS hA [0] [] rfl rfl (by decide) (by decide) (fun H locs hP hD hS => ?_)
        have hP : va_P E.1 vwCl ([[(h0, .inr (5, [.int 2, .int nu, .int (-1)]))]] : List va_W).flatten H := hP
        have hD : va_D A ([[(h0, .inr (5, [.int 2, .int nu, .int (-1)]))]] : List va_W).flatten := hD
        refine W.eq (g2 := F0 Mi 60 ls [.int 1]) rfl ?_
        refine lv_goto (tgt := 71) hx hb dX6_reads_60 (by decide) ?_
        refine z_topi (y := m_rso pt nu c) (by simp only [m_rso, if_neg c_3, e_15, if_pos c_53]; first | done | rfl | (simp [m_spo, m_spp, m_spn]; done)) ?_
        have hP : va_P E.1 vwCl ([[(h0, .inr (5, [.int 2, .int nu, .int (-1)]))]] : List va_W).flatten H := zf_sub hP [0] rfl
        have hD : va_D A ([[(h0, .inr (5, [.int 2, .int nu, .int (-1)]))]] : List va_W).flatten := zf_subD hD [0] (by decide) rfl
        exact W.zret (v := m_rso pt nu c) hx hb hr (z_b01 (m_rso01 _ _ _)) (z_end hP hD hS (by simp only [m_rsp, m_rsm, m_rsn, if_neg c_3, e_15, if_pos c_53]; first | done | rfl | (simp [m_spo, m_spp, m_spn]; done))) hS.2.2 dX6_reads_71 hlocks
    · refine z_topi e_15 ?_
      refine lv_tableIn (off := 57) (tgt := 72) hx hb dX6_reads_15 (by decide) (by decide) rfl (by decide) ?_
      refine lv_aload_n hx hb dX6_reads_72 rfl (lv_at hl 0 rfl) ?_
      refine lv_iload_n hx hb dX6_reads_73 rfl (lv_at hl 1 rfl) ?_
      refine lv_sipush (v := 5000) hx hb dX6_reads_74 (by decide) ?_
      refine lv_sipush (v := 11000) hx hb dX6_reads_77 (by decide) ?_
      have hPc : va_P E.1 vwCl ([[(h0, .inr (5, [.int pt, .int mi, .int nu]))]] : List va_W).flatten H := zf_sub hP [0] rfl
      have hDc : va_D A ([[(h0, .inr (5, [.int pt, .int mi, .int nu]))]] : List va_W).flatten := zf_subD hD [0] (by decide) rfl
      refine z_mut (Sc := [[(h0, .inr (5, [.int pt, .int mi, .int nu]))]]) (Sr := []) (W1 := [[(h0, .inr (5, [.int pt, .int mi, .int (m_rdn nu c 5000 11000)]))]]) (va_runV (As := [.int c, .int 5000, .int 11000]) (rest := []) ⟨hx, hb, hml, hown, hts⟩ (c_X6_readsDigit l E h0 pt mi nu c 5000 11000 H.size) (cwV 3 hts gX6_reads_X6_readsDigit rfl rfl rfl (by decide +kernel) ⟨Nat.le_of_ble_eq_true rfl, Nat.le_of_ble_eq_true rfl⟩) ⟨zP.blind, va_recv hK.1 hPc (ci := 5) (q0 := 0) rfl rfl, z_pre hK hPc hDc⟩ rfl rfl hl.1 rfl (lv_room (Nat.le_of_ble_eq_true rfl)) dX6_reads_80 ⟨Nat.le_of_ble_eq_true rfl, Nat.le_of_ble_eq_true rfl⟩) hP hD hS hA [0] [] rfl rfl (by decide) (by decide) (fun H locs hP hD hS => ?_)
      have hP : va_P E.1 vwCl ([[(h0, .inr (5, [.int pt, .int mi, .int (m_rdn nu c 5000 11000)]))]] : List va_W).flatten H := hP
      have hD : va_D A ([[(h0, .inr (5, [.int pt, .int mi, .int (m_rdn nu c 5000 11000)]))]] : List va_W).flatten := hD
      refine W.eq (g2 := F0 Mi 83 ls [.int (m_rdo nu c 5000 11000)]) rfl ?_
      refine z_topi (y := m_rso pt nu c) (by simp only [m_rso, if_neg c_3, e_15]; first | done | rfl | (simp [m_spo, m_spp, m_spn]; done)) ?_
      have hP : va_P E.1 vwCl ([[(h0, .inr (5, [.int pt, .int mi, .int (m_rdn nu c 5000 11000)]))]] : List va_W).flatten H := zf_sub hP [0] rfl
      have hD : va_D A ([[(h0, .inr (5, [.int pt, .int mi, .int (m_rdn nu c 5000 11000)]))]] : List va_W).flatten := zf_subD hD [0] (by decide) rfl
      exact W.zret (v := m_rso pt nu c) hx hb hr (z_b01 (m_rso01 _ _ _)) (z_end hP hD hS (by simp only [m_rsp, m_rsm, m_rsn, if_neg c_3, e_15]; first | done | rfl | (simp [m_spo, m_spp, m_spn]; done))) hS.2.2 dX6_reads_83 hlocks
    · refine z_topi e_15 ?_
      refine lv_tableIn (off := 69) (tgt := 84) hx hb dX6_reads_15 (by decide) (by decide) rfl (by decide) ?_
      refine lv_aload_n hx hb dX6_reads_84 rfl (lv_at hl 0 rfl) ?_
      refine lv_iload_n hx hb dX6_reads_85 rfl (lv_at hl 1 rfl) ?_
      refine lv_iconst (v := 0) hx hb dX6_reads_86 (by decide) ?_
      refine lv_ldc hx hb hown (hts (.constant RX6 33 (50000)) (by decide +kernel)) dX6_reads_87 ?_
      have hPc : va_P E.1 vwCl ([[(h0, .inr (5, [.int pt, .int mi, .int nu]))]] : List va_W).flatten H := zf_sub hP [0] rfl
      have hDc : va_D A ([[(h0, .inr (5, [.int pt, .int mi, .int nu]))]] : List va_W).flatten := zf_subD hD [0] (by decide) rfl
      refine z_mut (Sc := [[(h0, .inr (5, [.int pt, .int mi, .int nu]))]]) (Sr := []) (W1 := [[(h0, .inr (5, [.int pt, .int mi, .int (m_rdn nu c 0 (50000))]))]]) (va_runV (As := [.int c, .int 0, .int (50000)]) (rest := []) ⟨hx, hb, hml, hown, hts⟩ (c_X6_readsDigit l E h0 pt mi nu c 0 (50000) H.size) (cwV 3 hts gX6_reads_X6_readsDigit rfl rfl rfl (by decide +kernel) ⟨Nat.le_of_ble_eq_true rfl, Nat.le_of_ble_eq_true rfl⟩) ⟨zP.blind, va_recv hK.1 hPc (ci := 5) (q0 := 0) rfl rfl, z_pre hK hPc hDc⟩ rfl rfl hl.1 rfl (lv_room (Nat.le_of_ble_eq_true rfl)) dX6_reads_89 ⟨Nat.le_of_ble_eq_true rfl, Nat.le_of_ble_eq_true rfl⟩) hP hD hS hA [0] [] rfl rfl (by decide) (by decide) (fun H locs hP hD hS => ?_)
      have hP : va_P E.1 vwCl ([[(h0, .inr (5, [.int pt, .int mi, .int (m_rdn nu c 0 (50000))]))]] : List va_W).flatten H := hP
      have hD : va_D A ([[(h0, .inr (5, [.int pt, .int mi, .int (m_rdn nu c 0 (50000))]))]] : List va_W).flatten := hD
      refine W.eq (g2 := F0 Mi 92 ls [.int (m_rdo nu c 0 (50000))]) rfl ?_
      refine z_topi (y := m_rso pt nu c) (by simp only [m_rso, if_neg c_3, e_15]; first | done | rfl | (simp [m_spo, m_spp, m_spn]; done)) ?_
      have hP : va_P E.1 vwCl ([[(h0, .inr (5, [.int pt, .int mi, .int (m_rdn nu c 0 (50000))]))]] : List va_W).flatten H := zf_sub hP [0] rfl
      have hD : va_D A ([[(h0, .inr (5, [.int pt, .int mi, .int (m_rdn nu c 0 (50000))]))]] : List va_W).flatten := zf_subD hD [0] (by decide) rfl
      exact W.zret (v := m_rso pt nu c) hx hb hr (z_b01 (m_rso01 _ _ _)) (z_end hP hD hS (by simp only [m_rsp, m_rsm, m_rsn, if_neg c_3, e_15]; first | done | rfl | (simp [m_spo, m_spp, m_spn]; done))) hS.2.2 dX6_reads_92 hlocks
    · refine z_topi e_15 ?_
      refine lv_tableOut (tgt := 93) hx hb dX6_reads_15 (by decide) (by decide) ?_
      refine lv_iconst (v := 0) hx hb dX6_reads_93 (by decide) ?_
      refine z_topi (y := m_rso pt nu c) (by simp only [m_rso, if_neg c_3, e_15]; first | done | rfl | (simp [m_spo, m_spp, m_spn]; done)) ?_
      have hP : va_P E.1 vwCl ([[(h0, .inr (5, [.int pt, .int mi, .int nu]))]] : List va_W).flatten H := zf_sub hP [0] rfl
      have hD : va_D A ([[(h0, .inr (5, [.int pt, .int mi, .int nu]))]] : List va_W).flatten := zf_subD hD [0] (by decide) rfl
      exact W.zret (v := m_rso pt nu c) hx hb hr (z_b01 (m_rso01 _ _ _)) (z_end hP hD hS (by simp only [m_rsp, m_rsm, m_rsn, if_neg c_3, e_15]; first | done | rfl | (simp [m_spo, m_spp, m_spn]; done))) hS.2.2 dX6_reads_94 hlocks
    · refine z_topi e_15 ?_
      refine lv_tableOut (tgt := 93) hx hb dX6_reads_15 (by decide) (by decide) ?_
      refine lv_iconst (v := 0) hx hb dX6_reads_93 (by decide) ?_
      refine z_topi (y := m_rso pt nu c) (by simp only [m_rso, if_neg c_3, e_15]; first | done | rfl | (simp [m_spo, m_spp, m_spn]; done)) ?_
      have hP : va_P E.1 vwCl ([[(h0, .inr (5, [.int pt, .int mi, .int nu]))]] : List va_W).flatten H := zf_sub hP [0] rfl
      have hD : va_D A ([[(h0, .inr (5, [.int pt, .int mi, .int nu]))]] : List va_W).flatten := zf_subD hD [0] (by decide) rfl
      exact W.zret (v := m_rso pt nu c) hx hb hr (z_b01 (m_rso01 _ _ _)) (z_end hP hD hS (by simp only [m_rsp, m_rsm, m_rsn, if_neg c_3, e_15]; first | done | rfl | (simp [m_spo, m_spp, m_spn]; done))) hS.2.2 dX6_reads_94 hlocks
  · refine lv_aload_n hx hb dX6_reads_6 rfl (lv_at hl 0 rfl) ?_
    have hPc : va_P E.1 vwCl ([[(h0, .inr (5, [.int pt, .int mi, .int nu]))]] : List va_W).flatten H := zf_sub hP [0] rfl
    have hDc : va_D A ([[(h0, .inr (5, [.int pt, .int mi, .int nu]))]] : List va_W).flatten := zf_subD hD [0] (by decide) rfl
    refine z_mut (Sc := [[(h0, .inr (5, [.int pt, .int mi, .int nu]))]]) (Sr := []) (W1 := [[(h0, .inr (5, [.int (if m_pw pt nu = 0 then pt else 0), .int mi, .int (if m_pw pt nu = 0 then nu else -1)]))]]) (va_runV (As := []) (rest := []) ⟨hx, hb, hml, hown, hts⟩ (c_X6_endsPart l E h0 pt mi nu hpt H.size) (cwV 0 hts gX6_reads_X6_endsPart rfl rfl rfl (by decide +kernel) ⟨Nat.le_of_ble_eq_true rfl, Nat.le_of_ble_eq_true rfl⟩) ⟨zP.blind, va_recv hK.1 hPc (ci := 5) (q0 := 0) rfl rfl, z_pre hK hPc hDc⟩ rfl rfl hl.1 rfl (lv_room (Nat.le_of_ble_eq_true rfl)) dX6_reads_7 ⟨Nat.le_of_ble_eq_true rfl, Nat.le_of_ble_eq_true rfl⟩) hP hD hS hA [0] [] rfl rfl (by decide) (by decide) (fun H locs hP hD hS => ?_)
    have hP : va_P E.1 vwCl ([[(h0, .inr (5, [.int (if m_pw pt nu = 0 then pt else 0), .int mi, .int (if m_pw pt nu = 0 then nu else -1)]))]] : List va_W).flatten H := hP
    have hD : va_D A ([[(h0, .inr (5, [.int (if m_pw pt nu = 0 then pt else 0), .int mi, .int (if m_pw pt nu = 0 then nu else -1)]))]] : List va_W).flatten := hD
    refine W.eq (g2 := F0 Mi 10 ls [.int (m_pw pt nu)]) rfl ?_
    refine z_topi (y := m_rso pt nu c) (by simp only [m_rso, if_pos c_3]) ?_
    have hP : va_P E.1 vwCl ([[(h0, .inr (5, [.int (if m_pw pt nu = 0 then pt else 0), .int mi, .int (if m_pw pt nu = 0 then nu else -1)]))]] : List va_W).flatten H := zf_sub hP [0] rfl
    have hD : va_D A ([[(h0, .inr (5, [.int (if m_pw pt nu = 0 then pt else 0), .int mi, .int (if m_pw pt nu = 0 then nu else -1)]))]] : List va_W).flatten := zf_subD hD [0] (by decide) rfl
    exact W.zret (v := m_rso pt nu c) hx hb hr (z_b01 (m_rso01 _ _ _)) (z_end hP hD hS (by simp only [m_rsp, m_rsm, m_rsn, if_pos c_3])) hS.2.2 dX6_reads_10 hlocks
