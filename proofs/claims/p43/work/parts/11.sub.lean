set_option maxHeartbeats 4000000 in
set_option maxRecDepth 100000 in
theorem c_X1_init (l : Launch) (E : zE) (h0 : Nat) (b a d t : Int32) : zM l yX1_init wsX1_init ({ frames := 1, cells := 0, slots := 0, locals := 20 }) E [.ref h0] ([[(h0, .inr (0, [.int b, .int a, .int d, .int t]))]] : List va_W).flatten none ([[(h0, .inr (0, [.int b, .int a, .int d, .int 50]))]] : List va_W).flatten 0 0 := by
  refine z_start (cc := cX1_init) (maxL := 1) (ret := none) (by decide) rfl (Nat.le_of_ble_eq_true rfl) ?_
  intro Pg En s Mi below meth Cd A hx hb hr hts hown hlocks hin hml hA H hH hP hK hD hS ls hl
  have hl : lv_has ls 1 [(0, .ref h0)] := hl
  have hi_X1 : ∀ w ∈ wsX10, w ∈ wsX1_init := by decide +kernel
  refine lv_aload_n hx hb dX1_init_0 rfl (lv_at hl 0 rfl) ?_
  refine W.objInit hx hb hown (hts (.methodLink RX1 3 objectInit) (by decide +kernel)) (hts (.instanceMethod objectInit) (by decide +kernel)) (hts (.code objectInit ⟨#[0xb1]⟩ 1 none) (by decide +kernel)) rfl (by rw [hml]; exact hl.1) rfl dX1_init_1 (Nat.le_of_ble_eq_true rfl) (Nat.le_of_ble_eq_true rfl) ?_
  refine W.eq (g2 := F0 Mi 4 ls []) rfl ?_
  refine lv_aload_n hx hb dX1_init_4 rfl (lv_at hl 0 rfl) ?_
  refine lv_bipush (v := 50) hx hb dX1_init_5 (by decide) ?_
  refine va_put (D := E.1) (ci := 0) (v := .int 50) (ty := .int) (C := RX1) (T := TX1) (N := 4) hx hb hts hi_X1 tyX1 tyX1_ok nmX1 hown hK.1 hP hD hS 0 rfl rfl 3 (by decide) (hts (.fieldLink RX1 9 "AltimeterWatch$Climb" "threshold" "I") (by decide +kernel)) (fun _ h9 => h9) rfl (by decide +kernel) rfl rfl (Nat.le_of_ble_eq_true rfl) dX1_init_7 (fun H locs hP hD hS => ?_)
  have hP : va_P E.1 vwCl ([[(h0, .inr (0, [.int b, .int a, .int d, .int 50]))]] : List va_W).flatten H := hP
  have hD : va_D A ([[(h0, .inr (0, [.int b, .int a, .int d, .int 50]))]] : List va_W).flatten := hD
  have hP : va_P E.1 vwCl ([[(h0, .inr (0, [.int b, .int a, .int d, .int 50]))]] : List va_W).flatten H := zf_sub hP [0] rfl
  have hD : va_D A ([[(h0, .inr (0, [.int b, .int a, .int d, .int 50]))]] : List va_W).flatten := zf_subD hD [0] (by decide) rfl
  exact W.vret hx hb hr (z_end hP hD hS rfl) hS.2.2 dX1_init_10 hlocks

set_option maxHeartbeats 4000000 in
set_option maxRecDepth 100000 in
theorem c_X1_copyFrom (l : Launch) (E : zE) (h0 h1 : Nat) (b a d t b1 a1 d1 t1 : Int32) : zM l yX1_copyFrom wsX1_copyFrom ({ frames := 0, cells := 0, slots := 0, locals := 0 }) E [.ref h0, .ref h1] ([[(h0, .inr (0, [.int b, .int a, .int d, .int t]))], [(h1, .inr (0, [.int b1, .int a1, .int d1, .int t1]))]] : List va_W).flatten none ([[(h0, .inr (0, [.int b1, .int a1, .int d1, .int t1]))], [(h1, .inr (0, [.int b1, .int a1, .int d1, .int t1]))]] : List va_W).flatten 0 0 := by
  refine z_start (cc := cX1_copyFrom) (maxL := 2) (ret := none) (by decide) rfl (Nat.le_of_ble_eq_true rfl) ?_
  intro Pg En s Mi below meth Cd A hx hb hr hts hown hlocks hin hml hA H hH hP hK hD hS ls hl
  have hl : lv_has ls 2 [(0, .ref h0), (1, .ref h1)] := hl
  have hi_X1 : ∀ w ∈ wsX10, w ∈ wsX1_copyFrom := by decide +kernel
  refine lv_aload_n hx hb dX1_copyFrom_0 rfl (lv_at hl 0 rfl) ?_
  refine lv_aload_n hx hb dX1_copyFrom_1 rfl (lv_at hl 1 rfl) ?_
  refine va_get (D := E.1) (ci := 0) (v := .int b1) (C := RX1) (T := TX1) (N := 4) hx hb hts hi_X1 hown hK.1 hP 1 rfl rfl 0 (by decide) (hts (.fieldLink RX1 15 "AltimeterWatch$Climb" "base" "I") (by decide +kernel)) (fun _ h9 => h9) rfl dX1_copyFrom_2 ?_
  refine va_put (D := E.1) (ci := 0) (v := .int b1) (ty := .int) (C := RX1) (T := TX1) (N := 4) hx hb hts hi_X1 tyX1 tyX1_ok nmX1 hown hK.1 hP hD hS 0 rfl rfl 0 (by decide) (hts (.fieldLink RX1 15 "AltimeterWatch$Climb" "base" "I") (by decide +kernel)) (fun _ h9 => h9) rfl (by decide +kernel) rfl rfl (Nat.le_of_ble_eq_true rfl) dX1_copyFrom_5 (fun H locs hP hD hS => ?_)
  have hP : va_P E.1 vwCl ([[(h0, .inr (0, [.int b1, .int a, .int d, .int t]))], [(h1, .inr (0, [.int b1, .int a1, .int d1, .int t1]))]] : List va_W).flatten H := hP
  have hD : va_D A ([[(h0, .inr (0, [.int b1, .int a, .int d, .int t]))], [(h1, .inr (0, [.int b1, .int a1, .int d1, .int t1]))]] : List va_W).flatten := hD
  refine lv_aload_n hx hb dX1_copyFrom_8 rfl (lv_at hl 0 rfl) ?_
  refine lv_aload_n hx hb dX1_copyFrom_9 rfl (lv_at hl 1 rfl) ?_
  refine va_get (D := E.1) (ci := 0) (v := .int a1) (C := RX1) (T := TX1) (N := 4) hx hb hts hi_X1 hown hK.1 hP 1 rfl rfl 1 (by decide) (hts (.fieldLink RX1 18 "AltimeterWatch$Climb" "ascent" "I") (by decide +kernel)) (fun _ h9 => h9) rfl dX1_copyFrom_10 ?_
  refine va_put (D := E.1) (ci := 0) (v := .int a1) (ty := .int) (C := RX1) (T := TX1) (N := 4) hx hb hts hi_X1 tyX1 tyX1_ok nmX1 hown hK.1 hP hD hS 0 rfl rfl 1 (by decide) (hts (.fieldLink RX1 18 "AltimeterWatch$Climb" "ascent" "I") (by decide +kernel)) (fun _ h9 => h9) rfl (by decide +kernel) rfl rfl (Nat.le_of_ble_eq_true rfl) dX1_copyFrom_13 (fun H locs hP hD hS => ?_)
  have hP : va_P E.1 vwCl ([[(h0, .inr (0, [.int b1, .int a1, .int d, .int t]))], [(h1, .inr (0, [.int b1, .int a1, .int d1, .int t1]))]] : List va_W).flatten H := hP
  have hD : va_D A ([[(h0, .inr (0, [.int b1, .int a1, .int d, .int t]))], [(h1, .inr (0, [.int b1, .int a1, .int d1, .int t1]))]] : List va_W).flatten := hD
  refine lv_aload_n hx hb dX1_copyFrom_16 rfl (lv_at hl 0 rfl) ?_
  refine lv_aload_n hx hb dX1_copyFrom_17 rfl (lv_at hl 1 rfl) ?_
  refine va_get (D := E.1) (ci := 0) (v := .int d1) (C := RX1) (T := TX1) (N := 4) hx hb hts hi_X1 hown hK.1 hP 1 rfl rfl 2 (by decide) (hts (.fieldLink RX1 21 "AltimeterWatch$Climb" "descent" "I") (by decide +kernel)) (fun _ h9 => h9) rfl dX1_copyFrom_18 ?_
  refine va_put (D := E.1) (ci := 0) (v := .int d1) (ty := .int) (C := RX1) (T := TX1) (N := 4) hx hb hts hi_X1 tyX1 tyX1_ok nmX1 hown hK.1 hP hD hS 0 rfl rfl 2 (by decide) (hts (.fieldLink RX1 21 "AltimeterWatch$Climb" "descent" "I") (by decide +kernel)) (fun _ h9 => h9) rfl (by decide +kernel) rfl rfl (Nat.le_of_ble_eq_true rfl) dX1_copyFrom_21 (fun H locs hP hD hS => ?_)
  have hP : va_P E.1 vwCl ([[(h0, .inr (0, [.int b1, .int a1, .int d1, .int t]))], [(h1, .inr (0, [.int b1, .int a1, .int d1, .int t1]))]] : List va_W).flatten H := hP
  have hD : va_D A ([[(h0, .inr (0, [.int b1, .int a1, .int d1, .int t]))], [(h1, .inr (0, [.int b1, .int a1, .int d1, .int t1]))]] : List va_W).flatten := hD
  refine lv_aload_n hx hb dX1_copyFrom_24 rfl (lv_at hl 0 rfl) ?_
  refine lv_aload_n hx hb dX1_copyFrom_25 rfl (lv_at hl 1 rfl) ?_
  refine va_get (D := E.1) (ci := 0) (v := .int t1) (C := RX1) (T := TX1) (N := 4) hx hb hts hi_X1 hown hK.1 hP 1 rfl rfl 3 (by decide) (hts (.fieldLink RX1 9 "AltimeterWatch$Climb" "threshold" "I") (by decide +kernel)) (fun _ h9 => h9) rfl dX1_copyFrom_26 ?_
  refine va_put (D := E.1) (ci := 0) (v := .int t1) (ty := .int) (C := RX1) (T := TX1) (N := 4) hx hb hts hi_X1 tyX1 tyX1_ok nmX1 hown hK.1 hP hD hS 0 rfl rfl 3 (by decide) (hts (.fieldLink RX1 9 "AltimeterWatch$Climb" "threshold" "I") (by decide +kernel)) (fun _ h9 => h9) rfl (by decide +kernel) rfl rfl (Nat.le_of_ble_eq_true rfl) dX1_copyFrom_29 (fun H locs hP hD hS => ?_)
  have hP : va_P E.1 vwCl ([[(h0, .inr (0, [.int b1, .int a1, .int d1, .int t1]))], [(h1, .inr (0, [.int b1, .int a1, .int d1, .int t1]))]] : List va_W).flatten H := hP
  have hD : va_D A ([[(h0, .inr (0, [.int b1, .int a1, .int d1, .int t1]))], [(h1, .inr (0, [.int b1, .int a1, .int d1, .int t1]))]] : List va_W).flatten := hD
  have hP : va_P E.1 vwCl ([[(h0, .inr (0, [.int b1, .int a1, .int d1, .int t1]))], [(h1, .inr (0, [.int b1, .int a1, .int d1, .int t1]))]] : List va_W).flatten H := zf_sub hP [0, 1] rfl
  have hD : va_D A ([[(h0, .inr (0, [.int b1, .int a1, .int d1, .int t1]))], [(h1, .inr (0, [.int b1, .int a1, .int d1, .int t1]))]] : List va_W).flatten := zf_subD hD [0, 1] (by decide) rfl
  exact W.vret hx hb hr (z_end hP hD hS rfl) hS.2.2 dX1_copyFrom_32 hlocks

def m_tb (b t x : Int32) : Int32 := if b + t ≤ x then x else if x ≤ b - t then x else b
def m_ta (b a t x : Int32) : Int32 := if b + t ≤ x then a + (x - b) else a
def m_td (b d t x : Int32) : Int32 := if b + t ≤ x then d else if x ≤ b - t then d + (b - x) else d

set_option maxHeartbeats 4000000 in
set_option maxRecDepth 100000 in
theorem c_X1_take (l : Launch) (E : zE) (h0 : Nat) (b a d t x : Int32) : zM l yX1_take wsX1_take ({ frames := 0, cells := 0, slots := 0, locals := 0 }) E [.ref h0, .int x] ([[(h0, .inr (0, [.int b, .int a, .int d, .int t]))]] : List va_W).flatten none ([[(h0, .inr (0, [.int (m_tb b t x), .int (m_ta b a t x), .int (m_td b d t x), .int t]))]] : List va_W).flatten 0 0 := by
  refine z_start (cc := cX1_take) (maxL := 2) (ret := none) (by decide) rfl (Nat.le_of_ble_eq_true rfl) ?_
  intro Pg En s Mi below meth Cd A hx hb hr hts hown hlocks hin hml hA H hH hP hK hD hS ls hl
  have hl : lv_has ls 2 [(0, .ref h0), (1, .int x)] := hl
  have hi_X1 : ∀ w ∈ wsX10, w ∈ wsX1_take := by decide +kernel
  refine lv_iload_n hx hb dX1_take_0 rfl (lv_at hl 1 rfl) ?_
  refine lv_aload_n hx hb dX1_take_1 rfl (lv_at hl 0 rfl) ?_
  refine va_get (D := E.1) (ci := 0) (v := .int b) (C := RX1) (T := TX1) (N := 4) hx hb hts hi_X1 hown hK.1 hP 0 rfl rfl 0 (by decide) (hts (.fieldLink RX1 15 "AltimeterWatch$Climb" "base" "I") (by decide +kernel)) (fun _ h9 => h9) rfl dX1_take_2 ?_
  refine lv_aload_n hx hb dX1_take_5 rfl (lv_at hl 0 rfl) ?_
  refine va_get (D := E.1) (ci := 0) (v := .int t) (C := RX1) (T := TX1) (N := 4) hx hb hts hi_X1 hown hK.1 hP 0 rfl rfl 3 (by decide) (hts (.fieldLink RX1 9 "AltimeterWatch$Climb" "threshold" "I") (by decide +kernel)) (fun _ h9 => h9) rfl dX1_take_6 ?_
  refine lv_iadd hx hb dX1_take_9 ?_
  refine lv_icmp_lt (tgt := 36) hx hb dX1_take_10 (by decide) (fun c_10 => ?_) (fun c_10 => ?_)
  · refine lv_iload_n hx hb dX1_take_36 rfl (lv_at hl 1 rfl) ?_
    refine lv_aload_n hx hb dX1_take_37 rfl (lv_at hl 0 rfl) ?_
    refine va_get (D := E.1) (ci := 0) (v := .int b) (C := RX1) (T := TX1) (N := 4) hx hb hts hi_X1 hown hK.1 hP 0 rfl rfl 0 (by decide) (hts (.fieldLink RX1 15 "AltimeterWatch$Climb" "base" "I") (by decide +kernel)) (fun _ h9 => h9) rfl dX1_take_38 ?_
    refine lv_aload_n hx hb dX1_take_41 rfl (lv_at hl 0 rfl) ?_
    refine va_get (D := E.1) (ci := 0) (v := .int t) (C := RX1) (T := TX1) (N := 4) hx hb hts hi_X1 hown hK.1 hP 0 rfl rfl 3 (by decide) (hts (.fieldLink RX1 9 "AltimeterWatch$Climb" "threshold" "I") (by decide +kernel)) (fun _ h9 => h9) rfl dX1_take_42 ?_
    refine lv_isub hx hb dX1_take_45 ?_
    refine lv_icmp_gt (tgt := 69) hx hb dX1_take_46 (by decide) (fun c_46 => ?_) (fun c_46 => ?_)
    · have hP : va_P E.1 vwCl ([[(h0, .inr (0, [.int b, .int a, .int d, .int t]))]] : List va_W).flatten H := zf_sub hP [0] rfl
      have hD : va_D A ([[(h0, .inr (0, [.int b, .int a, .int d, .int t]))]] : List va_W).flatten := zf_subD hD [0] (by decide) rfl
      exact W.vret hx hb hr (z_end hP hD hS (by rw [m_tb, m_ta, m_td, if_neg (Int32.not_le.mpr c_10), if_neg (Int32.not_le.mpr c_10), if_neg (Int32.not_le.mpr c_10), if_neg (Int32.not_le.mpr c_46), if_neg (Int32.not_le.mpr c_46)])) hS.2.2 dX1_take_69 hlocks
    · refine lv_aload_n hx hb dX1_take_49 rfl (lv_at hl 0 rfl) ?_
      refine lv_dup hx hb dX1_take_50 rfl ?_
      refine va_get (D := E.1) (ci := 0) (v := .int d) (C := RX1) (T := TX1) (N := 4) hx hb hts hi_X1 hown hK.1 hP 0 rfl rfl 2 (by decide) (hts (.fieldLink RX1 21 "AltimeterWatch$Climb" "descent" "I") (by decide +kernel)) (fun _ h9 => h9) rfl dX1_take_51 ?_
      refine lv_aload_n hx hb dX1_take_54 rfl (lv_at hl 0 rfl) ?_
      refine va_get (D := E.1) (ci := 0) (v := .int b) (C := RX1) (T := TX1) (N := 4) hx hb hts hi_X1 hown hK.1 hP 0 rfl rfl 0 (by decide) (hts (.fieldLink RX1 15 "AltimeterWatch$Climb" "base" "I") (by decide +kernel)) (fun _ h9 => h9) rfl dX1_take_55 ?_
      refine lv_iload_n hx hb dX1_take_58 rfl (lv_at hl 1 rfl) ?_
      refine lv_isub hx hb dX1_take_59 ?_
      refine lv_iadd hx hb dX1_take_60 ?_
      refine lv_topi (fun f_1 ef_1 => ?_)
      refine va_put (D := E.1) (ci := 0) (v := .int f_1) (ty := .int) (C := RX1) (T := TX1) (N := 4) hx hb hts hi_X1 tyX1 tyX1_ok nmX1 hown hK.1 hP hD hS 0 rfl rfl 2 (by decide) (hts (.fieldLink RX1 21 "AltimeterWatch$Climb" "descent" "I") (by decide +kernel)) (fun _ h9 => h9) rfl (by decide +kernel) rfl rfl (Nat.le_of_ble_eq_true rfl) dX1_take_61 (fun H locs hP hD hS => ?_)
      have hP : va_P E.1 vwCl ([[(h0, .inr (0, [.int b, .int a, .int f_1, .int t]))]] : List va_W).flatten H := hP
      have hD : va_D A ([[(h0, .inr (0, [.int b, .int a, .int f_1, .int t]))]] : List va_W).flatten := hD
      refine lv_aload_n hx hb dX1_take_64 rfl (lv_at hl 0 rfl) ?_
      refine lv_iload_n hx hb dX1_take_65 rfl (lv_at hl 1 rfl) ?_
      refine va_put (D := E.1) (ci := 0) (v := .int x) (ty := .int) (C := RX1) (T := TX1) (N := 4) hx hb hts hi_X1 tyX1 tyX1_ok nmX1 hown hK.1 hP hD hS 0 rfl rfl 0 (by decide) (hts (.fieldLink RX1 15 "AltimeterWatch$Climb" "base" "I") (by decide +kernel)) (fun _ h9 => h9) rfl (by decide +kernel) rfl rfl (Nat.le_of_ble_eq_true rfl) dX1_take_66 (fun H locs hP hD hS => ?_)
      have hP : va_P E.1 vwCl ([[(h0, .inr (0, [.int x, .int a, .int f_1, .int t]))]] : List va_W).flatten H := hP
      have hD : va_D A ([[(h0, .inr (0, [.int x, .int a, .int f_1, .int t]))]] : List va_W).flatten := hD
      have hP : va_P E.1 vwCl ([[(h0, .inr (0, [.int x, .int a, .int f_1, .int t]))]] : List va_W).flatten H := zf_sub hP [0] rfl
      have hD : va_D A ([[(h0, .inr (0, [.int x, .int a, .int f_1, .int t]))]] : List va_W).flatten := zf_subD hD [0] (by decide) rfl
      exact W.vret hx hb hr (z_end hP hD hS (by rw [m_tb, m_ta, m_td, if_neg (Int32.not_le.mpr c_10), if_neg (Int32.not_le.mpr c_10), if_neg (Int32.not_le.mpr c_10), if_pos (Int32.not_lt.mp c_46), if_pos (Int32.not_lt.mp c_46), ← ef_1])) hS.2.2 dX1_take_69 hlocks
  · refine lv_aload_n hx hb dX1_take_13 rfl (lv_at hl 0 rfl) ?_
    refine lv_dup hx hb dX1_take_14 rfl ?_
    refine va_get (D := E.1) (ci := 0) (v := .int a) (C := RX1) (T := TX1) (N := 4) hx hb hts hi_X1 hown hK.1 hP 0 rfl rfl 1 (by decide) (hts (.fieldLink RX1 18 "AltimeterWatch$Climb" "ascent" "I") (by decide +kernel)) (fun _ h9 => h9) rfl dX1_take_15 ?_
    refine lv_iload_n hx hb dX1_take_18 rfl (lv_at hl 1 rfl) ?_
    refine lv_aload_n hx hb dX1_take_19 rfl (lv_at hl 0 rfl) ?_
    refine va_get (D := E.1) (ci := 0) (v := .int b) (C := RX1) (T := TX1) (N := 4) hx hb hts hi_X1 hown hK.1 hP 0 rfl rfl 0 (by decide) (hts (.fieldLink RX1 15 "AltimeterWatch$Climb" "base" "I") (by decide +kernel)) (fun _ h9 => h9) rfl dX1_take_20 ?_
    refine lv_isub hx hb dX1_take_23 ?_
    refine lv_iadd hx hb dX1_take_24 ?_
    refine lv_topi (fun f_2 ef_2 => ?_)
    refine va_put (D := E.1) (ci := 0) (v := .int f_2) (ty := .int) (C := RX1) (T := TX1) (N := 4) hx hb hts hi_X1 tyX1 tyX1_ok nmX1 hown hK.1 hP hD hS 0 rfl rfl 1 (by decide) (hts (.fieldLink RX1 18 "AltimeterWatch$Climb" "ascent" "I") (by decide +kernel)) (fun _ h9 => h9) rfl (by decide +kernel) rfl rfl (Nat.le_of_ble_eq_true rfl) dX1_take_25 (fun H locs hP hD hS => ?_)
    have hP : va_P E.1 vwCl ([[(h0, .inr (0, [.int b, .int f_2, .int d, .int t]))]] : List va_W).flatten H := hP
    have hD : va_D A ([[(h0, .inr (0, [.int b, .int f_2, .int d, .int t]))]] : List va_W).flatten := hD
    refine lv_aload_n hx hb dX1_take_28 rfl (lv_at hl 0 rfl) ?_
    refine lv_iload_n hx hb dX1_take_29 rfl (lv_at hl 1 rfl) ?_
    refine va_put (D := E.1) (ci := 0) (v := .int x) (ty := .int) (C := RX1) (T := TX1) (N := 4) hx hb hts hi_X1 tyX1 tyX1_ok nmX1 hown hK.1 hP hD hS 0 rfl rfl 0 (by decide) (hts (.fieldLink RX1 15 "AltimeterWatch$Climb" "base" "I") (by decide +kernel)) (fun _ h9 => h9) rfl (by decide +kernel) rfl rfl (Nat.le_of_ble_eq_true rfl) dX1_take_30 (fun H locs hP hD hS => ?_)
    have hP : va_P E.1 vwCl ([[(h0, .inr (0, [.int x, .int f_2, .int d, .int t]))]] : List va_W).flatten H := hP
    have hD : va_D A ([[(h0, .inr (0, [.int x, .int f_2, .int d, .int t]))]] : List va_W).flatten := hD
    refine lv_goto (tgt := 69) hx hb dX1_take_33 (by decide) ?_
    have hP : va_P E.1 vwCl ([[(h0, .inr (0, [.int x, .int f_2, .int d, .int t]))]] : List va_W).flatten H := zf_sub hP [0] rfl
    have hD : va_D A ([[(h0, .inr (0, [.int x, .int f_2, .int d, .int t]))]] : List va_W).flatten := zf_subD hD [0] (by decide) rfl
    exact W.vret hx hb hr (z_end hP hD hS (by rw [m_tb, m_ta, m_td, if_pos (Int32.not_lt.mp c_10), if_pos (Int32.not_lt.mp c_10), if_pos (Int32.not_lt.mp c_10), ← ef_2])) hS.2.2 dX1_take_69 hlocks

set_option maxHeartbeats 4000000 in
set_option maxRecDepth 100000 in
theorem c_X9_copyRow (l : Launch) (E : zE) (a0 a1 n : Nat) (f g : Nat → Int32) (hn : n < 2 ^ 31) : zM l yX9_copyRow wsX9_copyRow ({ frames := 1, cells := 0, slots := 0, locals := 26 }) E [.ref a0, .ref a1] ([[(a0, .inl (E.2 0, n, .inl f))], [(a1, .inl (E.2 0, n, .inl g))]] : List va_W).flatten none ([[(a0, .inl (E.2 0, n, .inl f))], [(a1, .inl (E.2 0, n, .inl (m_cp n f g)))]] : List va_W).flatten 0 0 := by
  refine z_start (cc := cX9_copyRow) (maxL := 2) (ret := none) (by decide) rfl (Nat.le_of_ble_eq_true rfl) ?_
  intro Pg En s Mi below meth Cd A hx hb hr hts hown hlocks hin hml hA H hH hP hK hD hS ls hl
  have hl : lv_has ls 2 [(0, .ref a0), (1, .ref a1)] := hl
  refine lv_aload_n hx hb dX9_copyRow_0 rfl (lv_at hl 0 rfl) ?_
  refine lv_iconst (v := 0) hx hb dX9_copyRow_1 (by decide) ?_
  refine lv_aload_n hx hb dX9_copyRow_2 rfl (lv_at hl 1 rfl) ?_
  refine lv_iconst (v := 0) hx hb dX9_copyRow_3 (by decide) ?_
  refine lv_aload_n hx hb dX9_copyRow_4 rfl (lv_at hl 0 rfl) ?_
  refine va_alen (v := nI n) hx hb hK.1 hP 0 0 rfl rfl rfl dX9_copyRow_5 ?_
  refine lv_aload_n hx hb dX9_copyRow_6 rfl (lv_at hl 1 rfl) ?_
  refine va_alen (v := nI n) hx hb hK.1 hP 1 0 rfl rfl rfl dX9_copyRow_7 ?_
  refine va_mmin hx hb (by rw [hml]; exact hl.1.symm) hown (hts (.methodLink RX9 261 Lib.Math.min.name) (by decide +kernel)) (hts (.static Lib.Math.min.name) (by decide +kernel)) (hts (.initialized "java/lang/Math") (by decide +kernel)) (hts (.code Lib.Math.min.name Lib.Math.min.code 2 (some .int)) (by decide +kernel)) (Nat.le_of_ble_eq_true rfl) (Nat.le_of_ble_eq_true rfl) (Nat.le_of_ble_eq_true rfl) (Nat.le_of_ble_eq_true rfl) dX9_copyRow_8 ?_
  refine z_topi (y := nI n) (if_neg (fun h9 => Int32.lt_irrefl h9)) ?_
  refine z_copy (k := n) hx hb (by rw [hml]; exact hl.1.symm) hown (hts (.methodLink RX9 266 arraycopyName) (by decide +kernel)) (hts (.native arraycopyName) (by decide +kernel)) (hts (.static arraycopyName) (by decide +kernel)) (hts (.initialized "java/lang/System") (by decide +kernel)) hK.1 hP hD hS 0 1 rfl rfl rfl ⟨Nat.le_refl _, Nat.le_refl _, hn⟩ (Nat.le_of_ble_eq_true rfl) (Nat.le_of_ble_eq_true rfl) dX9_copyRow_11 (fun H locs hP hD hS => ?_)
  have hP : va_P E.1 vwCl ([[(a0, .inl (E.2 0, n, .inl f))], [(a1, .inl (E.2 0, n, .inl (m_cp n f g)))]] : List va_W).flatten H := hP
  have hD : va_D A ([[(a0, .inl (E.2 0, n, .inl f))], [(a1, .inl (E.2 0, n, .inl (m_cp n f g)))]] : List va_W).flatten := hD
  have hP : va_P E.1 vwCl ([[(a0, .inl (E.2 0, n, .inl f))], [(a1, .inl (E.2 0, n, .inl (m_cp n f g)))]] : List va_W).flatten H := zf_sub hP [0, 1] rfl
  have hD : va_D A ([[(a0, .inl (E.2 0, n, .inl f))], [(a1, .inl (E.2 0, n, .inl (m_cp n f g)))]] : List va_W).flatten := zf_subD hD [0, 1] (by decide) rfl
  exact W.vret hx hb hr (z_end hP hD hS rfl) hS.2.2 dX9_copyRow_14 hlocks

def m_up (n : Nat) (f : Nat → Int32) : Nat → Int32 := fun j => if j + 1 < n then f (j + 1) else f j
theorem m_up_1 (f : Nat → Int32) : m_up 1 f = f := by funext j; simp [m_up]
theorem m_up_step (f : Nat → Int32) {i : Nat} (hi : 1 ≤ i) : upd (m_up i f) (i - 1) (m_up i f i) = m_up (i + 1) f := by
  funext j
  unfold upd m_up
  by_cases e : j = i - 1
  · subst e
    rw [if_pos rfl, if_neg (by omega), if_pos (by omega)]
    congr 1; omega
  · rw [if_neg e]
    by_cases h : j + 1 < i
    · rw [if_pos h, if_pos (by omega)]
    · rw [if_neg h, if_neg (by omega)]

set_option maxHeartbeats 4000000 in
set_option maxRecDepth 100000 in
theorem c_X9_moveUp (l : Launch) (E : zE) (a0 n : Nat) (f : Nat → Int32) (hn : n < 2 ^ 31) (hn1 : 1 ≤ n) : zM l yX9_moveUp wsX9_moveUp ({ frames := 0, cells := 0, slots := 0, locals := 0 }) E [.ref a0] ([[(a0, .inl (E.2 0, n, .inl f))]] : List va_W).flatten none ([[(a0, .inl (E.2 0, n, .inl (m_up n f)))]] : List va_W).flatten 0 0 := by
  refine z_start (cc := cX9_moveUp) (maxL := 2) (ret := none) (by decide) rfl (Nat.le_of_ble_eq_true rfl) ?_
  intro Pg En s Mi below meth Cd A hx hb hr hts hown hlocks hin hml hA H hH hP hK hD hS ls hl
  have hl : lv_has ls 2 [(0, .ref a0)] := hl
  have LOOP_2 : ∀ (n1 : Nat) (i : Nat) (x : Int32), n < i + n1 → i ≤ n → 1 ≤ i → x = nI i →  ∀ (H : Heap) (locs : List Loc), va_P E.1 vwCl ([[(a0, .inl (E.2 0, n, .inl (m_up i f)))]] : List va_W).flatten H → va_D A ([[(a0, .inl (E.2 0, n, .inl (m_up i f)))]] : List va_W).flatten → va_S A s.heap H locs → ∀ (ls : Array Slot), lv_has ls 2 [(0, .ref a0), (1, .int x)] → W Pg l En ({ frames := 0, cells := 0, slots := 0, locals := 0 } : Room) s Mi ([.ref a0] : List Value).toArray below meth Cd H locs 0 0 (MQ below (zQ none (zB E ([[(a0, .inl (E.2 0, n, .inl (m_up n f)))]] : List va_W).flatten A) A) ([.ref a0] : List Value).toArray s 0 0 A) (F0 Mi 2 ls []) := by
    intro n1
    induction n1 with
    | zero => intro i x h1 h2 h3 h4; exact absurd h1 (by omega)
    | succ n1 ih =>
      intro i x h1 h2 h3 h4 H locs hP hD hS ls hl
      refine lv_iload_n hx hb dX9_moveUp_2 rfl (lv_at hl 1 rfl) ?_
      refine lv_aload_n hx hb dX9_moveUp_3 rfl (lv_at hl 0 rfl) ?_
      refine va_alen (v := nI n) hx hb hK.1 hP 0 0 rfl rfl rfl dX9_moveUp_4 ?_
      refine lv_icmp_ge (tgt := 22) hx hb dX9_moveUp_5 (by decide) (fun c_5 => ?_) (fun c_5 => ?_)
      · have hP : va_P E.1 vwCl ([[(a0, .inl (E.2 0, n, .inl (m_up i f)))]] : List va_W).flatten H := zf_sub hP [0] rfl
        have hD : va_D A ([[(a0, .inl (E.2 0, n, .inl (m_up i f)))]] : List va_W).flatten := zf_subD hD [0] (by decide) rfl
        exact W.vret hx hb hr (z_end hP hD hS (by have e : i = n := by { have := nI_len (a := n) (b := i) (by omega) (by omega) (h4 ▸ c_5); omega }; rw [e])) hS.2.2 dX9_moveUp_22 hlocks
      · have hlt : i < n := nI_nlen (by omega) (by omega) (h4 ▸ c_5)
        refine lv_aload_n hx hb dX9_moveUp_8 rfl (lv_at hl 0 rfl) ?_
        refine lv_iload_n hx hb dX9_moveUp_9 rfl (lv_at hl 1 rfl) ?_
        refine lv_iconst (v := 1) hx hb dX9_moveUp_10 (by decide) ?_
        refine lv_isub hx hb dX9_moveUp_11 ?_
        refine lv_aload_n hx hb dX9_moveUp_12 rfl (lv_at hl 0 rfl) ?_
        refine lv_iload_n hx hb dX9_moveUp_13 rfl (lv_at hl 1 rfl) ?_
        refine z_iald (k := i) hx hb hK.1 hP 0 rfl h4 hlt hn dX9_moveUp_14 ?_
        refine z_iast (k := (i - 1)) hx hb hK.1 hP hD hS 0 rfl (by rw [h4]; exact pk_sub (a := i) (b := 1) h3) (by omega) hn dX9_moveUp_15 (fun H locs hP hD hS => ?_)
        rw [m_up_step f h3] at hP hD
        have hP : va_P E.1 vwCl ([[(a0, .inl (E.2 0, n, .inl (m_up (i + 1) f)))]] : List va_W).flatten H := hP
        have hD : va_D A ([[(a0, .inl (E.2 0, n, .inl (m_up (i + 1) f)))]] : List va_W).flatten := hD
        obtain ⟨x_1, ex_1⟩ : ∃ y : Int32, y = x + 1 := ⟨_, rfl⟩
        refine lv_iinc (v := x_1) (lv' := [(1, .int x_1), (0, .ref a0)]) hx hb dX9_moveUp_16 hl (k := 1) rfl (by rw [ex_1]; rfl) (by decide) rfl (fun ls hl => ?_)
        refine lv_goto (tgt := 2) hx hb dX9_moveUp_19 (by decide) ?_
        exact ih (i + 1) x_1 (by omega) (by omega) (by omega) (by rw [ex_1, h4]; exact nI_1 i) _ _ (zf_sub hP [0] (by first | rfl | (simp only [m_up_1]; rfl))) (zf_subD hD [0] (by decide) (by first | rfl | (simp only [m_up_1]; rfl))) hS ls (lv_sub hl [1, 0] rfl)
  refine lv_iconst (v := 1) hx hb dX9_moveUp_0 (by decide) ?_
  refine lv_istore_n (lv' := [(1, .int 1), (0, .ref a0)]) hx hb dX9_moveUp_1 rfl hl (by decide) rfl (fun ls hl => ?_)
  exact LOOP_2 (n + 1) 1 1 (by omega) hn1 (Nat.le_refl _) rfl _ _ (zf_sub hP [0] (by first | rfl | (simp only [m_up_1]; rfl))) (zf_subD hD [0] (by decide) (by first | rfl | (simp only [m_up_1]; rfl))) hS ls (lv_sub hl [1, 0] rfl)

def m_el (n : Nat) (f : Nat → Int32) (x : Int32) : Int32 := if x < 0 then 0 else if nI n ≤ x then 0 else f x.toNatClampNeg
theorem k_eq {x : Int32} (h : ¬ x < 0) : x = nI x.toNatClampNeg := by
  obtain ⟨j, hj, rfl⟩ := nI_of h
  rw [nI_clamp hj]
theorem k_ltc {x : Int32} {n : Nat} (h : ¬ x < 0) (h2 : ¬ nI n ≤ x) (hn : n < 2 ^ 31) : x.toNatClampNeg < n := by
  obtain ⟨j, hj, rfl⟩ := nI_of h
  rw [nI_clamp hj]
  exact nI_nlen hn hj h2
theorem m_el_in {n k : Nat} {f : Nat → Int32} (h : k < n) (hn : n < 2 ^ 31) : m_el n f (nI k) = f k := by
  rw [m_el, if_neg (nI_pos (by omega)), if_neg (nI_ge h hn), nI_clamp (by omega)]
theorem m_el_neg {n : Nat} {f : Nat → Int32} {x : Int32} (h : x < 0) : m_el n f x = 0 := by rw [m_el, if_pos h]

set_option maxHeartbeats 4000000 in
set_option maxRecDepth 100000 in
theorem c_X9_elementOf (l : Launch) (E : zE) (a0 n : Nat) (f : Nat → Int32) (x : Int32) (hn : n < 2 ^ 31) : zR l yX9_elementOf wsX9_elementOf ({ frames := 0, cells := 0, slots := 0, locals := 0 }) E [.ref a0, .int x] ([[(a0, .inl (E.2 0, n, .inl f))]] : List va_W).flatten (some (.int (m_el n f x))) := by
  refine z_startr (cc := cX9_elementOf) (maxL := 2) (ret := (some .int)) (by decide) rfl (Nat.le_of_ble_eq_true rfl) ?_
  intro Pg En s Mi below meth Cd hx hb hr hts hown hlocks hml hP hK ls hl
  have hl : lv_has ls 2 [(0, .ref a0), (1, .int x)] := hl
  refine lv_iload_n hx hb dX9_elementOf_0 rfl (lv_at hl 1 rfl) ?_
  refine lv_if_lt (tgt := 16) hx hb dX9_elementOf_1 (by decide) (fun c_1 => ?_) (fun c_1 => ?_)
  · refine lv_iconst (v := 0) hx hb dX9_elementOf_16 (by decide) ?_
    refine z_topi (y := m_el n f x) (by rw [m_el, if_pos c_1]) ?_
    exact W.iret (v := m_el n f x) hx hb hr z_endR (fun _ h => by cases h) dX9_elementOf_17 hlocks
  · refine lv_iload_n hx hb dX9_elementOf_4 rfl (lv_at hl 1 rfl) ?_
    refine lv_aload_n hx hb dX9_elementOf_5 rfl (lv_at hl 0 rfl) ?_
    refine va_alen (v := nI n) hx hb hK.1 hP 0 0 rfl rfl rfl dX9_elementOf_6 ?_
    refine lv_icmp_ge (tgt := 16) hx hb dX9_elementOf_7 (by decide) (fun c_7 => ?_) (fun c_7 => ?_)
    · refine lv_iconst (v := 0) hx hb dX9_elementOf_16 (by decide) ?_
      refine z_topi (y := m_el n f x) (by rw [m_el, if_neg c_1, if_pos c_7]) ?_
      exact W.iret (v := m_el n f x) hx hb hr z_endR (fun _ h => by cases h) dX9_elementOf_17 hlocks
    · refine lv_aload_n hx hb dX9_elementOf_10 rfl (lv_at hl 0 rfl) ?_
      refine lv_iload_n hx hb dX9_elementOf_11 rfl (lv_at hl 1 rfl) ?_
      refine z_iald (k := x.toNatClampNeg) hx hb hK.1 hP 0 rfl (k_eq c_1) (k_ltc c_1 c_7 hn) hn dX9_elementOf_12 ?_
      refine lv_goto (tgt := 17) hx hb dX9_elementOf_13 (by decide) ?_
      refine z_topi (y := m_el n f x) (by rw [m_el, if_neg c_1, if_neg c_7]) ?_
      exact W.iret (v := m_el n f x) hx hb hr z_endR (fun _ h => by cases h) dX9_elementOf_17 hlocks

