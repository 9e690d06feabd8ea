def m_sh (sv : Nat → Int32) (b : Nat) : Nat → Nat → Int32
  | 0 => sv
  | k + 1 => upd (m_sh sv b k) (b + 15 + (k + 1) - 1) (m_sh sv b k (b + 15 + (k + 1)))
theorem m_sh_pos {sv : Nat → Int32} {b i : Nat} (h : 1 ≤ i) : m_sh sv b i = upd (m_sh sv b (i - 1)) (b + 15 + i - 1) (m_sh sv b (i - 1) (b + 15 + i)) := by
  obtain ⟨j, rfl⟩ : ∃ j, i = j + 1 := ⟨i - 1, by omega⟩
  rfl
theorem m_sh_lo {sv : Nat → Int32} {b x : Nat} (hx : x < b + 15) : ∀ k, m_sh sv b k x = sv x
  | 0 => rfl
  | k + 1 => by
    rw [m_sh]
    unfold upd
    rw [if_neg (by omega)]
    exact m_sh_lo hx k
def m_lgC (m : Nat) : Nat := if m = 60 then 59 else m
def m_lgT (sv : Nat → Int32) (b m : Nat) : Nat → Int32 := if m = 60 then m_sh sv b 59 else sv
def m_lgA (sv : Nat → Int32) (b m : Nat) : Nat → Int32 := upd (upd (upd (m_lgT sv b m) (b + 14) (nI (m_lgC m))) (b + 15 + m_lgC m) (sv (b + 0))) (b + 14) (nI (m_lgC m + 1))
theorem m_lgA_14 (sv : Nat → Int32) (b m : Nat) : m_lgA sv b m (b + 14) = nI (m_lgC m + 1) := by
  unfold m_lgA upd
  rw [if_pos rfl]
theorem m_lgC_le {m : Nat} (h : m ≤ 60) : m_lgC m + 1 ≤ 60 := by
  unfold m_lgC
  split <;> omega
theorem m_clA_14 (sv : Nat → Int32) (b : Nat) : m_clA sv b (b + 14) = sv (b + 14) := by
  unfold m_clA m_clB
  split
  · simp [upd]
  · rfl

set_option maxHeartbeats 4000000 in
set_option maxRecDepth 100000 in
theorem c_X10_logs (l : Launch) (E : zE) (h0 k1 k2 k3 : Nat) (th sd ln at0 pt mi nu : Int32) (ha : Int64) (x1 : Int32) (b : Nat) (e1 : x1 = nI b) (hb0 : b ≤ 1044) (sv : Nat → Int32) (m : Nat) (hm : sv (b + 14) = nI m) (hm6 : m ≤ 60) : zM l yX10_logs wsX10_logs ({ frames := 0, cells := 0, slots := 0, locals := 0 }) E [.ref h0, .int x1] ([[(h0, .inr (9, [.int th, .ref k1, .int sd, .ref k2, .ref k3, .int ln, .int at0, .int pt, .int mi, .int nu, .long ha]))], [(k1, .inl (E.2 0, 1160, .inl sv))]] : List va_W).flatten none ([[(h0, .inr (9, [.int th, .ref k1, .int sd, .ref k2, .ref k3, .int ln, .int at0, .int pt, .int mi, .int nu, .long ha]))], [(k1, .inl (E.2 0, 1160, .inl (m_lgA sv b m)))]] : List va_W).flatten 0 0 := by
  subst e1
  refine z_start (cc := cX10_logs) (maxL := 3) (ret := none) (by decide) rfl (Nat.le_of_ble_eq_true rfl) ?_
  intro Pg En s Mi below meth Cd A hx hb hr hts hown hlocks hin hml hA H hH hP hK hD hS ls hl
  have hl : lv_has ls 3 [(0, .ref h0), (1, .int (nI b))] := hl
  have hi_X10 : ∀ w ∈ wsX100, w ∈ wsX10_logs := by decide +kernel
  have LOOP_2 : ∀ (kz : Nat) (i : Nat) (x : Int32), 60 < i + kz → i ≤ 60 → 1 ≤ i → x = nI i → i = 1 ∨ sv (b + 14) = 60 →  ∀ (H : Heap) (locs : List Loc), va_P E.1 vwCl ([[(h0, .inr (9, [.int th, .ref k1, .int sd, .ref k2, .ref k3, .int ln, .int at0, .int pt, .int mi, .int nu, .long ha]))], [(k1, .inl (E.2 0, 1160, .inl (m_sh sv b (i - 1))))]] : List va_W).flatten H → va_D A ([[(h0, .inr (9, [.int th, .ref k1, .int sd, .ref k2, .ref k3, .int ln, .int at0, .int pt, .int mi, .int nu, .long ha]))], [(k1, .inl (E.2 0, 1160, .inl (m_sh sv b (i - 1))))]] : List va_W).flatten → va_S A s.heap H locs → ∀ (ls : Array Slot), lv_has ls 3 [(0, .ref h0), (1, .int (nI b)), (2, .int x)] → W Pg l En ({ frames := 0, cells := 0, slots := 0, locals := 0 } : Room) s Mi ([.ref h0, .int (nI b)] : List Value).toArray below meth Cd H locs 0 0 (MQ below (zQ none (zB E ([[(h0, .inr (9, [.int th, .ref k1, .int sd, .ref k2, .ref k3, .int ln, .int at0, .int pt, .int mi, .int nu, .long ha]))], [(k1, .inl (E.2 0, 1160, .inl (m_lgA sv b m)))]] : List va_W).flatten A) A) ([.ref h0, .int (nI b)] : List Value).toArray s 0 0 A) (F0 Mi 2 ls []) := by
    intro kz
    induction kz with
    | zero => intro i x h1 h2 h4 h3 h7; exact absurd h1 (by omega)
    | succ kz ih =>
      intro i x h1 h2 h4 h3 h7 H locs hP hD hS ls hl
      refine lv_iload_n hx hb dX10_logs_2 rfl (lv_at hl 2 rfl) ?_
      refine lv_bipush (v := 60) hx hb dX10_logs_3 (by decide) ?_
      refine lv_icmp_ge (tgt := 52) hx hb dX10_logs_5 (by decide) (fun c_5 => ?_) (fun c_5 => ?_)
      · have e60 : i = 60 := by have := nI_len (a := 60) (b := i) (by decide) (by omega) (by rw [← h3]; exact c_5); omega
        have h60 : sv (b + 14) = 60 := h7.resolve_left (by omega)
        have hm60 : m = 60 := by { have e9 := m_n_nI (n := m) (by omega); rw [← hm, h60] at e9; exact e9.symm.trans (by decide) }
        rw [show i - 1 = 59 by omega] at hP hD
        refine lv_aload_n hx hb dX10_logs_52 rfl (lv_at hl 0 rfl) ?_
        refine va_get (D := E.1) (ci := 9) (v := .ref k1) (C := RX10) (T := TX10) (N := 11) hx hb hts hi_X10 hown hK.1 hP 0 rfl rfl 1 (by decide) (hts (.fieldLink RX10 7 "AltimeterWatchModel" "s" "[I") (by decide +kernel)) (fun _ h9 => h9) rfl dX10_logs_53 ?_
        refine lv_iload_n hx hb dX10_logs_56 rfl (lv_at hl 1 rfl) ?_
        refine lv_bipush (v := 14) hx hb dX10_logs_57 (by decide) ?_
        refine lv_iadd hx hb dX10_logs_59 ?_
        refine lv_dup2_11 hx hb dX10_logs_60 rfl rfl ?_
        refine z_iald (k := (b + 14)) hx hb hK.1 hP 1 rfl (z_addI rfl rfl) (by omega) (by decide) dX10_logs_61 ?_
        refine z_topi (y := (sv (b + 14))) (m_sh_lo (by omega) _) ?_
        refine lv_aload_n hx hb dX10_logs_62 rfl (lv_at hl 0 rfl) ?_
        refine va_get (D := E.1) (ci := 9) (v := .ref k1) (C := RX10) (T := TX10) (N := 11) hx hb hts hi_X10 hown hK.1 hP 0 rfl rfl 1 (by decide) (hts (.fieldLink RX10 7 "AltimeterWatchModel" "s" "[I") (by decide +kernel)) (fun _ h9 => h9) rfl dX10_logs_63 ?_
        refine lv_iload_n hx hb dX10_logs_66 rfl (lv_at hl 1 rfl) ?_
        refine lv_bipush (v := 14) hx hb dX10_logs_67 (by decide) ?_
        refine lv_iadd hx hb dX10_logs_69 ?_
        refine z_iald (k := (b + 14)) hx hb hK.1 hP 1 rfl (z_addI rfl rfl) (by omega) (by decide) dX10_logs_70 ?_
        refine z_topi (y := (sv (b + 14))) (m_sh_lo (by omega) _) ?_
        refine lv_bipush (v := 60) hx hb dX10_logs_71 (by decide) ?_
        refine lv_icmp_ne (tgt := 80) hx hb dX10_logs_73 (by decide) (fun h9 => absurd h9 ((fun h9 => h9 h60))) (fun _ => ?_)
        refine lv_iconst (v := 1) hx hb dX10_logs_76 (by decide) ?_
        refine lv_goto (tgt := 81) hx hb dX10_logs_77 (by decide) ?_
        refine lv_isub hx hb dX10_logs_81 ?_
        refine z_topi (y := (nI 59)) (by rw [h60]; rfl) ?_
        refine z_iast (k := (b + 14)) hx hb hK.1 hP hD hS 1 rfl (z_addI rfl rfl) (by omega) (by decide) dX10_logs_82 (fun H locs hP hD hS => ?_)
        have hP : va_P E.1 vwCl ([[(h0, .inr (9, [.int th, .ref k1, .int sd, .ref k2, .ref k3, .int ln, .int at0, .int pt, .int mi, .int nu, .long ha]))], [(k1, .inl (E.2 0, 1160, .inl (upd (m_sh sv b 59) (b + 14) (nI 59))))]] : List va_W).flatten H := hP
        have hD : va_D A ([[(h0, .inr (9, [.int th, .ref k1, .int sd, .ref k2, .ref k3, .int ln, .int at0, .int pt, .int mi, .int nu, .long ha]))], [(k1, .inl (E.2 0, 1160, .inl (upd (m_sh sv b 59) (b + 14) (nI 59))))]] : List va_W).flatten := hD
        refine lv_aload_n hx hb dX10_logs_83 rfl (lv_at hl 0 rfl) ?_
        refine va_get (D := E.1) (ci := 9) (v := .ref k1) (C := RX10) (T := TX10) (N := 11) hx hb hts hi_X10 hown hK.1 hP 0 rfl rfl 1 (by decide) (hts (.fieldLink RX10 7 "AltimeterWatchModel" "s" "[I") (by decide +kernel)) (fun _ h9 => h9) rfl dX10_logs_84 ?_
        refine lv_iload_n hx hb dX10_logs_87 rfl (lv_at hl 1 rfl) ?_
        refine lv_bipush (v := 15) hx hb dX10_logs_88 (by decide) ?_
        refine lv_iadd hx hb dX10_logs_90 ?_
        refine lv_aload_n hx hb dX10_logs_91 rfl (lv_at hl 0 rfl) ?_
        refine va_get (D := E.1) (ci := 9) (v := .ref k1) (C := RX10) (T := TX10) (N := 11) hx hb hts hi_X10 hown hK.1 hP 0 rfl rfl 1 (by decide) (hts (.fieldLink RX10 7 "AltimeterWatchModel" "s" "[I") (by decide +kernel)) (fun _ h9 => h9) rfl dX10_logs_92 ?_
        refine lv_iload_n hx hb dX10_logs_95 rfl (lv_at hl 1 rfl) ?_
        refine lv_bipush (v := 14) hx hb dX10_logs_96 (by decide) ?_
        refine lv_iadd hx hb dX10_logs_98 ?_
        refine z_iald (k := (b + 14)) hx hb hK.1 hP 1 rfl (z_addI rfl rfl) (by omega) (by decide) dX10_logs_99 ?_
        refine z_topi (y := (nI 59)) (by simp [upd]) ?_
        refine lv_iadd hx hb dX10_logs_100 ?_
        refine lv_aload_n hx hb dX10_logs_101 rfl (lv_at hl 0 rfl) ?_
        refine va_get (D := E.1) (ci := 9) (v := .ref k1) (C := RX10) (T := TX10) (N := 11) hx hb hts hi_X10 hown hK.1 hP 0 rfl rfl 1 (by decide) (hts (.fieldLink RX10 7 "AltimeterWatchModel" "s" "[I") (by decide +kernel)) (fun _ h9 => h9) rfl dX10_logs_102 ?_
        refine lv_iload_n hx hb dX10_logs_105 rfl (lv_at hl 1 rfl) ?_
        refine lv_iconst (v := 0) hx hb dX10_logs_106 (by decide) ?_
        refine lv_iadd hx hb dX10_logs_107 ?_
        refine z_iald (k := (b + 0)) hx hb hK.1 hP 1 rfl (z_addI rfl rfl) (by omega) (by decide) dX10_logs_108 ?_
        refine z_topi (y := ((m_sh sv b 59) (b + 0))) (by simp [upd]) ?_
        refine z_topi (y := (sv (b + 0))) (m_sh_lo (by omega) _) ?_
        refine z_iast (k := ((b + 15) + 59)) hx hb hK.1 hP hD hS 1 rfl (z_addI (z_addI rfl rfl) rfl) (by omega) (by decide) dX10_logs_109 (fun H locs hP hD hS => ?_)
        have hP : va_P E.1 vwCl ([[(h0, .inr (9, [.int th, .ref k1, .int sd, .ref k2, .ref k3, .int ln, .int at0, .int pt, .int mi, .int nu, .long ha]))], [(k1, .inl (E.2 0, 1160, .inl (upd (upd (m_sh sv b 59) (b + 14) (nI 59)) ((b + 15) + 59) (sv (b + 0)))))]] : List va_W).flatten H := hP
        have hD : va_D A ([[(h0, .inr (9, [.int th, .ref k1, .int sd, .ref k2, .ref k3, .int ln, .int at0, .int pt, .int mi, .int nu, .long ha]))], [(k1, .inl (E.2 0, 1160, .inl (upd (upd (m_sh sv b 59) (b + 14) (nI 59)) ((b + 15) + 59) (sv (b + 0)))))]] : List va_W).flatten := hD
        refine lv_aload_n hx hb dX10_logs_110 rfl (lv_at hl 0 rfl) ?_
        refine va_get (D := E.1) (ci := 9) (v := .ref k1) (C := RX10) (T := TX10) (N := 11) hx hb hts hi_X10 hown hK.1 hP 0 rfl rfl 1 (by decide) (hts (.fieldLink RX10 7 "AltimeterWatchModel" "s" "[I") (by decide +kernel)) (fun _ h9 => h9) rfl dX10_logs_111 ?_
        refine lv_iload_n hx hb dX10_logs_114 rfl (lv_at hl 1 rfl) ?_
        refine lv_bipush (v := 14) hx hb dX10_logs_115 (by decide) ?_
        refine lv_iadd hx hb dX10_logs_117 ?_
        refine lv_dup2_11 hx hb dX10_logs_118 rfl rfl ?_
        refine z_iald (k := (b + 14)) hx hb hK.1 hP 1 rfl (z_addI rfl rfl) (by omega) (by decide) dX10_logs_119 ?_
        refine z_topi (y := (nI 59)) (by unfold upd; rw [if_neg (by omega), if_pos rfl]) ?_
        refine lv_iconst (v := 1) hx hb dX10_logs_120 (by decide) ?_
        refine lv_iadd hx hb dX10_logs_121 ?_
        refine z_topi (y := (nI (59 + 1))) (nI_1 59) ?_
        refine z_iast (k := (b + 14)) hx hb hK.1 hP hD hS 1 rfl (z_addI rfl rfl) (by omega) (by decide) dX10_logs_122 (fun H locs hP hD hS => ?_)
        have hP : va_P E.1 vwCl ([[(h0, .inr (9, [.int th, .ref k1, .int sd, .ref k2, .ref k3, .int ln, .int at0, .int pt, .int mi, .int nu, .long ha]))], [(k1, .inl (E.2 0, 1160, .inl (upd (upd (upd (m_sh sv b 59) (b + 14) (nI 59)) ((b + 15) + 59) (sv (b + 0))) (b + 14) (nI (59 + 1)))))]] : List va_W).flatten H := hP
        have hD : va_D A ([[(h0, .inr (9, [.int th, .ref k1, .int sd, .ref k2, .ref k3, .int ln, .int at0, .int pt, .int mi, .int nu, .long ha]))], [(k1, .inl (E.2 0, 1160, .inl (upd (upd (upd (m_sh sv b 59) (b + 14) (nI 59)) ((b + 15) + 59) (sv (b + 0))) (b + 14) (nI (59 + 1)))))]] : List va_W).flatten := hD
        have hP : va_P E.1 vwCl ([[(h0, .inr (9, [.int th, .ref k1, .int sd, .ref k2, .ref k3, .int ln, .int at0, .int pt, .int mi, .int nu, .long ha]))], [(k1, .inl (E.2 0, 1160, .inl (upd (upd (upd (m_sh sv b 59) (b + 14) (nI 59)) ((b + 15) + 59) (sv (b + 0))) (b + 14) (nI (59 + 1)))))]] : List va_W).flatten H := zf_sub hP [0, 1] rfl
        have hD : va_D A ([[(h0, .inr (9, [.int th, .ref k1, .int sd, .ref k2, .ref k3, .int ln, .int at0, .int pt, .int mi, .int nu, .long ha]))], [(k1, .inl (E.2 0, 1160, .inl (upd (upd (upd (m_sh sv b 59) (b + 14) (nI 59)) ((b + 15) + 59) (sv (b + 0))) (b + 14) (nI (59 + 1)))))]] : List va_W).flatten := zf_subD hD [0, 1] (by decide) rfl
        exact W.vret hx hb hr (z_end hP hD hS (by rw [m_lgA, m_lgC, m_lgT, if_pos hm60, if_pos hm60])) hS.2.2 dX10_logs_123 hlocks
      · refine lv_aload_n hx hb dX10_logs_8 rfl (lv_at hl 0 rfl) ?_
        refine va_get (D := E.1) (ci := 9) (v := .ref k1) (C := RX10) (T := TX10) (N := 11) hx hb hts hi_X10 hown hK.1 hP 0 rfl rfl 1 (by decide) (hts (.fieldLink RX10 7 "AltimeterWatchModel" "s" "[I") (by decide +kernel)) (fun _ h9 => h9) rfl dX10_logs_9 ?_
        refine lv_iload_n hx hb dX10_logs_12 rfl (lv_at hl 1 rfl) ?_
        refine lv_bipush (v := 14) hx hb dX10_logs_13 (by decide) ?_
        refine lv_iadd hx hb dX10_logs_15 ?_
        refine z_iald (k := (b + 14)) hx hb hK.1 hP 1 rfl (z_addI rfl rfl) (by omega) (by decide) dX10_logs_16 ?_
        refine z_topi (y := (sv (b + 14))) (m_sh_lo (by omega) _) ?_
        refine lv_bipush (v := 60) hx hb dX10_logs_17 (by decide) ?_
        refine lv_icmp_ne (tgt := 52) hx hb dX10_logs_19 (by decide) (fun c_19 => ?_) (fun c_19 => ?_)
        · have hm60 : ¬ m = 60 := fun h9 => c_19 (by rw [hm, h9]; rfl)
          rw [show i - 1 = 0 by (have := h7.resolve_right c_19; omega)] at hP hD
          have hP : va_P E.1 vwCl ([[(h0, .inr (9, [.int th, .ref k1, .int sd, .ref k2, .ref k3, .int ln, .int at0, .int pt, .int mi, .int nu, .long ha]))], [(k1, .inl (E.2 0, 1160, .inl sv))]] : List va_W).flatten H := hP
          have hD : va_D A ([[(h0, .inr (9, [.int th, .ref k1, .int sd, .ref k2, .ref k3, .int ln, .int at0, .int pt, .int mi, .int nu, .long ha]))], [(k1, .inl (E.2 0, 1160, .inl sv))]] : List va_W).flatten := hD
          refine lv_aload_n hx hb dX10_logs_52 rfl (lv_at hl 0 rfl) ?_
          refine va_get (D := E.1) (ci := 9) (v := .ref k1) (C := RX10) (T := TX10) (N := 11) hx hb hts hi_X10 hown hK.1 hP 0 rfl rfl 1 (by decide) (hts (.fieldLink RX10 7 "AltimeterWatchModel" "s" "[I") (by decide +kernel)) (fun _ h9 => h9) rfl dX10_logs_53 ?_
          refine lv_iload_n hx hb dX10_logs_56 rfl (lv_at hl 1 rfl) ?_
          refine lv_bipush (v := 14) hx hb dX10_logs_57 (by decide) ?_
          refine lv_iadd hx hb dX10_logs_59 ?_
          refine lv_dup2_11 hx hb dX10_logs_60 rfl rfl ?_
          refine z_iald (k := (b + 14)) hx hb hK.1 hP 1 rfl (z_addI rfl rfl) (by omega) (by decide) dX10_logs_61 ?_
          refine lv_aload_n hx hb dX10_logs_62 rfl (lv_at hl 0 rfl) ?_
          refine va_get (D := E.1) (ci := 9) (v := .ref k1) (C := RX10) (T := TX10) (N := 11) hx hb hts hi_X10 hown hK.1 hP 0 rfl rfl 1 (by decide) (hts (.fieldLink RX10 7 "AltimeterWatchModel" "s" "[I") (by decide +kernel)) (fun _ h9 => h9) rfl dX10_logs_63 ?_
          refine lv_iload_n hx hb dX10_logs_66 rfl (lv_at hl 1 rfl) ?_
          refine lv_bipush (v := 14) hx hb dX10_logs_67 (by decide) ?_
          refine lv_iadd hx hb dX10_logs_69 ?_
          refine z_iald (k := (b + 14)) hx hb hK.1 hP 1 rfl (z_addI rfl rfl) (by omega) (by decide) dX10_logs_70 ?_
          refine lv_bipush (v := 60) hx hb dX10_logs_71 (by decide) ?_
          refine lv_icmp_ne (tgt := 80) hx hb dX10_logs_73 (by decide) (fun _ => ?_) (fun h9 => absurd h9 (c_19))
          refine lv_iconst (v := 0) hx hb dX10_logs_80 (by decide) ?_
          refine lv_isub hx hb dX10_logs_81 ?_
          refine z_topi (y := (nI m)) (by rw [hm]; simp) ?_
          refine z_iast (k := (b + 14)) hx hb hK.1 hP hD hS 1 rfl (z_addI rfl rfl) (by omega) (by decide) dX10_logs_82 (fun H locs hP hD hS => ?_)
          have hP : va_P E.1 vwCl ([[(h0, .inr (9, [.int th, .ref k1, .int sd, .ref k2, .ref k3, .int ln, .int at0, .int pt, .int mi, .int nu, .long ha]))], [(k1, .inl (E.2 0, 1160, .inl (upd sv (b + 14) (nI m))))]] : List va_W).flatten H := hP
          have hD : va_D A ([[(h0, .inr (9, [.int th, .ref k1, .int sd, .ref k2, .ref k3, .int ln, .int at0, .int pt, .int mi, .int nu, .long ha]))], [(k1, .inl (E.2 0, 1160, .inl (upd sv (b + 14) (nI m))))]] : List va_W).flatten := hD
          refine lv_aload_n hx hb dX10_logs_83 rfl (lv_at hl 0 rfl) ?_
          refine va_get (D := E.1) (ci := 9) (v := .ref k1) (C := RX10) (T := TX10) (N := 11) hx hb hts hi_X10 hown hK.1 hP 0 rfl rfl 1 (by decide) (hts (.fieldLink RX10 7 "AltimeterWatchModel" "s" "[I") (by decide +kernel)) (fun _ h9 => h9) rfl dX10_logs_84 ?_
          refine lv_iload_n hx hb dX10_logs_87 rfl (lv_at hl 1 rfl) ?_
          refine lv_bipush (v := 15) hx hb dX10_logs_88 (by decide) ?_
          refine lv_iadd hx hb dX10_logs_90 ?_
          refine lv_aload_n hx hb dX10_logs_91 rfl (lv_at hl 0 rfl) ?_
          refine va_get (D := E.1) (ci := 9) (v := .ref k1) (C := RX10) (T := TX10) (N := 11) hx hb hts hi_X10 hown hK.1 hP 0 rfl rfl 1 (by decide) (hts (.fieldLink RX10 7 "AltimeterWatchModel" "s" "[I") (by decide +kernel)) (fun _ h9 => h9) rfl dX10_logs_92 ?_
          refine lv_iload_n hx hb dX10_logs_95 rfl (lv_at hl 1 rfl) ?_
          refine lv_bipush (v := 14) hx hb dX10_logs_96 (by decide) ?_
          refine lv_iadd hx hb dX10_logs_98 ?_
          refine z_iald (k := (b + 14)) hx hb hK.1 hP 1 rfl (z_addI rfl rfl) (by omega) (by decide) dX10_logs_99 ?_
          refine z_topi (y := (nI m)) (by simp [upd]) ?_
          refine lv_iadd hx hb dX10_logs_100 ?_
          refine lv_aload_n hx hb dX10_logs_101 rfl (lv_at hl 0 rfl) ?_
          refine va_get (D := E.1) (ci := 9) (v := .ref k1) (C := RX10) (T := TX10) (N := 11) hx hb hts hi_X10 hown hK.1 hP 0 rfl rfl 1 (by decide) (hts (.fieldLink RX10 7 "AltimeterWatchModel" "s" "[I") (by decide +kernel)) (fun _ h9 => h9) rfl dX10_logs_102 ?_
          refine lv_iload_n hx hb dX10_logs_105 rfl (lv_at hl 1 rfl) ?_
          refine lv_iconst (v := 0) hx hb dX10_logs_106 (by decide) ?_
          refine lv_iadd hx hb dX10_logs_107 ?_
          refine z_iald (k := (b + 0)) hx hb hK.1 hP 1 rfl (z_addI rfl rfl) (by omega) (by decide) dX10_logs_108 ?_
          refine z_topi (y := (sv (b + 0))) (by simp [upd]) ?_
          refine z_iast (k := ((b + 15) + m)) hx hb hK.1 hP hD hS 1 rfl (z_addI (z_addI rfl rfl) rfl) (by omega) (by decide) dX10_logs_109 (fun H locs hP hD hS => ?_)
          have hP : va_P E.1 vwCl ([[(h0, .inr (9, [.int th, .ref k1, .int sd, .ref k2, .ref k3, .int ln, .int at0, .int pt, .int mi, .int nu, .long ha]))], [(k1, .inl (E.2 0, 1160, .inl (upd (upd sv (b + 14) (nI m)) ((b + 15) + m) (sv (b + 0)))))]] : List va_W).flatten H := hP
          have hD : va_D A ([[(h0, .inr (9, [.int th, .ref k1, .int sd, .ref k2, .ref k3, .int ln, .int at0, .int pt, .int mi, .int nu, .long ha]))], [(k1, .inl (E.2 0, 1160, .inl (upd (upd sv (b + 14) (nI m)) ((b + 15) + m) (sv (b + 0)))))]] : List va_W).flatten := hD
          refine lv_aload_n hx hb dX10_logs_110 rfl (lv_at hl 0 rfl) ?_
          refine va_get (D := E.1) (ci := 9) (v := .ref k1) (C := RX10) (T := TX10) (N := 11) hx hb hts hi_X10 hown hK.1 hP 0 rfl rfl 1 (by decide) (hts (.fieldLink RX10 7 "AltimeterWatchModel" "s" "[I") (by decide +kernel)) (fun _ h9 => h9) rfl dX10_logs_111 ?_
          refine lv_iload_n hx hb dX10_logs_114 rfl (lv_at hl 1 rfl) ?_
          refine lv_bipush (v := 14) hx hb dX10_logs_115 (by decide) ?_
          refine lv_iadd hx hb dX10_logs_117 ?_
          refine lv_dup2_11 hx hb dX10_logs_118 rfl rfl ?_
          refine z_iald (k := (b + 14)) hx hb hK.1 hP 1 rfl (z_addI rfl rfl) (by omega) (by decide) dX10_logs_119 ?_
          refine z_topi (y := (nI m)) (by unfold upd; rw [if_neg (by omega), if_pos rfl]) ?_
          refine lv_iconst (v := 1) hx hb dX10_logs_120 (by decide) ?_
          refine lv_iadd hx hb dX10_logs_121 ?_
          refine z_topi (y := (nI (m + 1))) (nI_1 m) ?_
          refine z_iast (k := (b + 14)) hx hb hK.1 hP hD hS 1 rfl (z_addI rfl rfl) (by omega) (by decide) dX10_logs_122 (fun H locs hP hD hS => ?_)
          have hP : va_P E.1 vwCl ([[(h0, .inr (9, [.int th, .ref k1, .int sd, .ref k2, .ref k3, .int ln, .int at0, .int pt, .int mi, .int nu, .long ha]))], [(k1, .inl (E.2 0, 1160, .inl (upd (upd (upd sv (b + 14) (nI m)) ((b + 15) + m) (sv (b + 0))) (b + 14) (nI (m + 1)))))]] : List va_W).flatten H := hP
          have hD : va_D A ([[(h0, .inr (9, [.int th, .ref k1, .int sd, .ref k2, .ref k3, .int ln, .int at0, .int pt, .int mi, .int nu, .long ha]))], [(k1, .inl (E.2 0, 1160, .inl (upd (upd (upd sv (b + 14) (nI m)) ((b + 15) + m) (sv (b + 0))) (b + 14) (nI (m + 1)))))]] : List va_W).flatten := hD
          have hP : va_P E.1 vwCl ([[(h0, .inr (9, [.int th, .ref k1, .int sd, .ref k2, .ref k3, .int ln, .int at0, .int pt, .int mi, .int nu, .long ha]))], [(k1, .inl (E.2 0, 1160, .inl (upd (upd (upd sv (b + 14) (nI m)) ((b + 15) + m) (sv (b + 0))) (b + 14) (nI (m + 1)))))]] : List va_W).flatten H := zf_sub hP [0, 1] rfl
          have hD : va_D A ([[(h0, .inr (9, [.int th, .ref k1, .int sd, .ref k2, .ref k3, .int ln, .int at0, .int pt, .int mi, .int nu, .long ha]))], [(k1, .inl (E.2 0, 1160, .inl (upd (upd (upd sv (b + 14) (nI m)) ((b + 15) + m) (sv (b + 0))) (b + 14) (nI (m + 1)))))]] : List va_W).flatten := zf_subD hD [0, 1] (by decide) rfl
          exact W.vret hx hb hr (z_end hP hD hS (by rw [m_lgA, m_lgC, m_lgT, if_neg hm60, if_neg hm60])) hS.2.2 dX10_logs_123 hlocks
        · refine lv_aload_n hx hb dX10_logs_22 rfl (lv_at hl 0 rfl) ?_
          refine va_get (D := E.1) (ci := 9) (v := .ref k1) (C := RX10) (T := TX10) (N := 11) hx hb hts hi_X10 hown hK.1 hP 0 rfl rfl 1 (by decide) (hts (.fieldLink RX10 7 "AltimeterWatchModel" "s" "[I") (by decide +kernel)) (fun _ h9 => h9) rfl dX10_logs_23 ?_
          refine lv_iload_n hx hb dX10_logs_26 rfl (lv_at hl 1 rfl) ?_
          refine lv_bipush (v := 15) hx hb dX10_logs_27 (by decide) ?_
          refine lv_iadd hx hb dX10_logs_29 ?_
          refine lv_iload_n hx hb dX10_logs_30 rfl (lv_at hl 2 rfl) ?_
          refine lv_iadd hx hb dX10_logs_31 ?_
          refine lv_iconst (v := 1) hx hb dX10_logs_32 (by decide) ?_
          refine lv_isub hx hb dX10_logs_33 ?_
          refine lv_aload_n hx hb dX10_logs_34 rfl (lv_at hl 0 rfl) ?_
          refine va_get (D := E.1) (ci := 9) (v := .ref k1) (C := RX10) (T := TX10) (N := 11) hx hb hts hi_X10 hown hK.1 hP 0 rfl rfl 1 (by decide) (hts (.fieldLink RX10 7 "AltimeterWatchModel" "s" "[I") (by decide +kernel)) (fun _ h9 => h9) rfl dX10_logs_35 ?_
          refine lv_iload_n hx hb dX10_logs_38 rfl (lv_at hl 1 rfl) ?_
          refine lv_bipush (v := 15) hx hb dX10_logs_39 (by decide) ?_
          refine lv_iadd hx hb dX10_logs_41 ?_
          refine lv_iload_n hx hb dX10_logs_42 rfl (lv_at hl 2 rfl) ?_
          refine lv_iadd hx hb dX10_logs_43 ?_
          refine z_iald (k := ((b + 15) + i)) hx hb hK.1 hP 1 rfl (z_addI (z_addI rfl rfl) h3) (by omega) (by decide) dX10_logs_44 ?_
          refine z_iast (k := (((b + 15) + i) - 1)) hx hb hK.1 hP hD hS 1 rfl (z_subI (z_addI (z_addI rfl rfl) h3) rfl (by omega)) (by omega) (by decide) dX10_logs_45 (fun H locs hP hD hS => ?_)
          have hP : va_P E.1 vwCl ([[(h0, .inr (9, [.int th, .ref k1, .int sd, .ref k2, .ref k3, .int ln, .int at0, .int pt, .int mi, .int nu, .long ha]))], [(k1, .inl (E.2 0, 1160, .inl (upd (m_sh sv b (i - 1)) (((b + 15) + i) - 1) ((m_sh sv b (i - 1)) ((b + 15) + i)))))]] : List va_W).flatten H := hP
          have hD : va_D A ([[(h0, .inr (9, [.int th, .ref k1, .int sd, .ref k2, .ref k3, .int ln, .int at0, .int pt, .int mi, .int nu, .long ha]))], [(k1, .inl (E.2 0, 1160, .inl (upd (m_sh sv b (i - 1)) (((b + 15) + i) - 1) ((m_sh sv b (i - 1)) ((b + 15) + i)))))]] : List va_W).flatten := hD
          rw [← m_sh_pos h4] at hP hD
          obtain ⟨x_1, ex_1⟩ : ∃ y : Int32, y = x + 1 := ⟨_, rfl⟩
          refine lv_iinc (v := x_1) (lv' := [(2, .int x_1), (0, .ref h0), (1, .int (nI b))]) hx hb dX10_logs_46 hl (k := 2) rfl (by rw [ex_1]; rfl) (by decide) rfl (fun ls hl => ?_)
          refine lv_goto (tgt := 2) hx hb dX10_logs_49 (by decide) ?_
          exact ih (i + 1) x_1 (by omega) (by have := nI_nlen (a := 60) (b := i) (by decide) (by omega) (by rw [← h3]; exact c_5); omega) (by omega) (by rw [ex_1, h3]; exact nI_1 i) (Or.inr c_19) _ _ (zf_sub hP [0, 1] rfl) (zf_subD hD [0, 1] (by decide) rfl) hS ls (lv_sub hl [1, 2, 0] rfl)
  refine lv_iconst (v := 1) hx hb dX10_logs_0 (by decide) ?_
  refine lv_istore_n (lv' := [(2, .int 1), (0, .ref h0), (1, .int (nI b))]) hx hb dX10_logs_1 rfl hl (by decide) rfl (fun ls hl => ?_)
  exact LOOP_2 60 1 1 (by decide) (by decide) (by decide) rfl (Or.inl rfl) _ _ (zf_sub hP [0, 1] rfl) (zf_subD hD [0, 1] (by decide) rfl) hS ls (lv_sub hl [1, 2, 0] rfl)

def m_mp1 (sv : Nat → Int32) (b : Nat) (p : Int32) : Nat → Int32 := upd (upd sv (b + 0) p) (b + 4) ((sv (b + 4)) + 1)
def m_mp2 (sv : Nat → Int32) (b m : Nat) (p : Int32) : Nat → Int32 :=
  if sv (b + 2) = 1 then m_lgA (upd (m_mp1 sv b p) (b + 1) (m_bst ((m_mp1 sv b p) (b + 0)) (sv (b + 3)))) b m else m_clA (m_mp1 sv b p) b
def m_mpn (sv : Nat → Int32) (b m : Nat) : Nat := if sv (b + 2) = 1 then m_lgC m + 1 else m
theorem m_mpn_le {sv : Nat → Int32} {b m : Nat} (h : m ≤ 60) : m_mpn sv b m ≤ 60 := by
  unfold m_mpn
  split
  · exact m_lgC_le h
  · exact h
theorem m_mp2_14 {sv : Nat → Int32} {b m : Nat} {p : Int32} (hm : sv (b + 14) = nI m) : m_mp2 sv b m p (b + 14) = nI (m_mpn sv b m) := by
  unfold m_mp2 m_mpn
  split
  · exact m_lgA_14 _ _ _
  · rw [m_clA_14]
    simp [m_mp1, upd]
    exact hm
def m_mpa (sv : Nat → Int32) (b m : Nat) (p : Int32) : Int32 := m_alM (m_mp2 sv b m p) b (m_mpn sv b m)
def m_mpk (sv : Nat → Int32) (b m : Nat) (p : Int32) : Int32 := if m_mpa sv b m p = 0 then 0 else if (m_mp2 sv b m p) (b + 13) = 0 then 1 else 0
def m_minA (sv : Nat → Int32) (b m : Nat) (p : Int32) : Nat → Int32 := upd (upd (m_mp2 sv b m p) (b + 12) ((m_mp2 sv b m p) (b + 12) + m_mpk sv b m p)) (b + 13) (m_mpa sv b m p)
theorem m_minA_14 {sv : Nat → Int32} {b m : Nat} {p : Int32} (hm : sv (b + 14) = nI m) : m_minA sv b m p (b + 14) = nI (m_mpn sv b m) := by
  rw [← m_mp2_14 (p := p) hm]
  simp [m_minA, upd]
def m_trA (sv : Nat → Int32) (b : Nat) (n p : Int32) : Nat → Nat → Int32
  | 0 => sv
  | k + 1 => m_minA (m_trA sv b n p k) b (m_n ((m_trA sv b n p k) (b + 14))) (m_way (sv (b + 0)) p (nI (k + 1)) n)
theorem m_tr14 {sv : Nat → Int32} {b m : Nat} {n p : Int32} (hm : sv (b + 14) = nI m) (hm6 : m ≤ 60) : ∀ k, (m_trA sv b n p k) (b + 14) = nI (m_n ((m_trA sv b n p k) (b + 14))) ∧ m_n ((m_trA sv b n p k) (b + 14)) ≤ 60
  | 0 => by
    show sv (b + 14) = nI (m_n (sv (b + 14))) ∧ m_n (sv (b + 14)) ≤ 60
    rw [hm, m_n_nI (by omega)]
    exact ⟨rfl, hm6⟩
  | k + 1 => by
    obtain ⟨h1, h2⟩ := m_tr14 (n := n) (p := p) hm hm6 k
    have e := m_minA_14 (p := m_way (sv (b + 0)) p (nI (k + 1)) n) h1
    show (m_minA (m_trA sv b n p k) b (m_n ((m_trA sv b n p k) (b + 14))) (m_way (sv (b + 0)) p (nI (k + 1)) n)) (b + 14) = nI (m_n ((m_minA (m_trA sv b n p k) b (m_n ((m_trA sv b n p k) (b + 14))) (m_way (sv (b + 0)) p (nI (k + 1)) n)) (b + 14))) ∧ _
    have hle := m_mpn_le (sv := m_trA sv b n p k) (b := b) h2
    show _ ∧ m_n ((m_minA (m_trA sv b n p k) b (m_n ((m_trA sv b n p k) (b + 14))) (m_way (sv (b + 0)) p (nI (k + 1)) n)) (b + 14)) ≤ 60
    rw [e, m_n_nI (by omega)]
    exact ⟨rfl, hle⟩
theorem m_trA_pos {sv : Nat → Int32} {b i : Nat} {n p : Int32} (h : 1 ≤ i) : m_trA sv b n p i = m_minA (m_trA sv b n p (i - 1)) b (m_n ((m_trA sv b n p (i - 1)) (b + 14))) (m_way (sv (b + 0)) p (nI i) n) := by
  obtain ⟨j, rfl⟩ : ∃ j, i = j + 1 := ⟨i - 1, by omega⟩
  rfl

set_option maxHeartbeats 4000000 in
set_option maxRecDepth 100000 in
theorem c_X10_minutePasses (l : Launch) (E : zE) (h0 k1 k2 k3 : Nat) (th sd ln at0 pt mi nu : Int32) (ha : Int64) (x1 : Int32) (b : Nat) (e1 : x1 = nI b) (hb0 : b ≤ 1044) (sv : Nat → Int32) (m : Nat) (hm : sv (b + 14) = nI m) (hm6 : m ≤ 60) (p : Int32) : zM l yX10_minutePasses wsX10_minutePasses ({ frames := 3, cells := 0, slots := 0, locals := 64 }) E [.ref h0, .int x1, .int p] ([[(h0, .inr (9, [.int th, .ref k1, .int sd, .ref k2, .ref k3, .int ln, .int at0, .int pt, .int mi, .int nu, .long ha]))], [(k1, .inl (E.2 0, 1160, .inl sv))]] : List va_W).flatten none ([[(h0, .inr (9, [.int th, .ref k1, .int sd, .ref k2, .ref k3, .int ln, .int at0, .int pt, .int mi, .int nu, .long ha]))], [(k1, .inl (E.2 0, 1160, .inl (m_minA sv b m p)))]] : List va_W).flatten 0 0 := by
  subst e1
  refine z_start (cc := cX10_minutePasses) (maxL := 4) (ret := none) (by decide) rfl (Nat.le_of_ble_eq_true rfl) ?_
  intro Pg En s Mi below meth Cd A hx hb hr hts hown hlocks hin hml hA H hH hP hK hD hS ls hl
  have hl : lv_has ls 4 [(0, .ref h0), (1, .int (nI b)), (2, .int p)] := hl
  have hi_X10 : ∀ w ∈ wsX100, w ∈ wsX10_minutePasses := by decide +kernel
  refine lv_aload_n hx hb dX10_minutePasses_0 rfl (lv_at hl 0 rfl) ?_
  refine va_get (D := E.1) (ci := 9) (v := .ref k1) (C := RX10) (T := TX10) (N := 11) hx hb hts hi_X10 hown hK.1 hP 0 rfl rfl 1 (by decide) (hts (.fieldLink RX10 7 "AltimeterWatchModel" "s" "[I") (by decide +kernel)) (fun _ h9 => h9) rfl dX10_minutePasses_1 ?_
  refine lv_iload_n hx hb dX10_minutePasses_4 rfl (lv_at hl 1 rfl) ?_
  refine lv_iconst (v := 0) hx hb dX10_minutePasses_5 (by decide) ?_
  refine lv_iadd hx hb dX10_minutePasses_6 ?_
  refine lv_iload_n hx hb dX10_minutePasses_7 rfl (lv_at hl 2 rfl) ?_
  refine z_iast (k := (b + 0)) hx hb hK.1 hP hD hS 1 rfl (z_addI rfl rfl) (by omega) (by decide) dX10_minutePasses_8 (fun H locs hP hD hS => ?_)
  have hP : va_P E.1 vwCl ([[(h0, .inr (9, [.int th, .ref k1, .int sd, .ref k2, .ref k3, .int ln, .int at0, .int pt, .int mi, .int nu, .long ha]))], [(k1, .inl (E.2 0, 1160, .inl (upd sv (b + 0) p)))]] : List va_W).flatten H := hP
  have hD : va_D A ([[(h0, .inr (9, [.int th, .ref k1, .int sd, .ref k2, .ref k3, .int ln, .int at0, .int pt, .int mi, .int nu, .long ha]))], [(k1, .inl (E.2 0, 1160, .inl (upd sv (b + 0) p)))]] : List va_W).flatten := hD
  refine lv_aload_n hx hb dX10_minutePasses_9 rfl (lv_at hl 0 rfl) ?_
  refine va_get (D := E.1) (ci := 9) (v := .ref k1) (C := RX10) (T := TX10) (N := 11) hx hb hts hi_X10 hown hK.1 hP 0 rfl rfl 1 (by decide) (hts (.fieldLink RX10 7 "AltimeterWatchModel" "s" "[I") (by decide +kernel)) (fun _ h9 => h9) rfl dX10_minutePasses_10 ?_
  refine lv_iload_n hx hb dX10_minutePasses_13 rfl (lv_at hl 1 rfl) ?_
  refine lv_iconst (v := 4) hx hb dX10_minutePasses_14 (by decide) ?_
  refine lv_iadd hx hb dX10_minutePasses_15 ?_
  refine lv_dup2_11 hx hb dX10_minutePasses_16 rfl rfl ?_
  refine z_iald (k := (b + 4)) hx hb hK.1 hP 1 rfl (z_addI rfl rfl) (by omega) (by decide) dX10_minutePasses_17 ?_
  refine z_topi (y := (sv (b + 4))) (by simp [upd]) ?_
  refine lv_iconst (v := 1) hx hb dX10_minutePasses_18 (by decide) ?_
  refine lv_iadd hx hb dX10_minutePasses_19 ?_
  refine z_iast (k := (b + 4)) hx hb hK.1 hP hD hS 1 rfl (z_addI rfl rfl) (by omega) (by decide) dX10_minutePasses_20 (fun H locs hP hD hS => ?_)
  have hP : va_P E.1 vwCl ([[(h0, .inr (9, [.int th, .ref k1, .int sd, .ref k2, .ref k3, .int ln, .int at0, .int pt, .int mi, .int nu, .long ha]))], [(k1, .inl (E.2 0, 1160, .inl (upd (upd sv (b + 0) p) (b + 4) ((sv (b + 4)) + 1))))]] : List va_W).flatten H := hP
  have hD : va_D A ([[(h0, .inr (9, [.int th, .ref k1, .int sd, .ref k2, .ref k3, .int ln, .int at0, .int pt, .int mi, .int nu, .long ha]))], [(k1, .inl (E.2 0, 1160, .inl (upd (upd sv (b + 0) p) (b + 4) ((sv (b + 4)) + 1))))]] : List va_W).flatten := hD
  have hP : va_P E.1 vwCl ([[(h0, .inr (9, [.int th, .ref k1, .int sd, .ref k2, .ref k3, .int ln, .int at0, .int pt, .int mi, .int nu, .long ha]))], [(k1, .inl (E.2 0, 1160, .inl (m_mp1 sv b p)))]] : List va_W).flatten H := hP
  have hD : va_D A ([[(h0, .inr (9, [.int th, .ref k1, .int sd, .ref k2, .ref k3, .int ln, .int at0, .int pt, .int mi, .int nu, .long ha]))], [(k1, .inl (E.2 0, 1160, .inl (m_mp1 sv b p)))]] : List va_W).flatten := hD
  refine lv_aload_n hx hb dX10_minutePasses_21 rfl (lv_at hl 0 rfl) ?_
  refine va_get (D := E.1) (ci := 9) (v := .ref k1) (C := RX10) (T := TX10) (N := 11) hx hb hts hi_X10 hown hK.1 hP 0 rfl rfl 1 (by decide) (hts (.fieldLink RX10 7 "AltimeterWatchModel" "s" "[I") (by decide +kernel)) (fun _ h9 => h9) rfl dX10_minutePasses_22 ?_
  refine lv_iload_n hx hb dX10_minutePasses_25 rfl (lv_at hl 1 rfl) ?_
  refine lv_iconst (v := 2) hx hb dX10_minutePasses_26 (by decide) ?_
  refine lv_iadd hx hb dX10_minutePasses_27 ?_
  refine z_iald (k := (b + 2)) hx hb hK.1 hP 1 rfl (z_addI rfl rfl) (by omega) (by decide) dX10_minutePasses_28 ?_
  refine z_topi (y := (sv (b + 2))) (by simp [m_mp1, upd]) ?_
  refine lv_iconst (v := 1) hx hb dX10_minutePasses_29 (by decide) ?_
  refine lv_icmp_ne (tgt := 54) hx hb dX10_minutePasses_30 (by decide) (fun c_30 => ?_) (fun c_30 => ?_)
  · refine lv_aload_n hx hb dX10_minutePasses_54 rfl (lv_at hl 0 rfl) ?_
    refine lv_iload_n hx hb dX10_minutePasses_55 rfl (lv_at hl 1 rfl) ?_
    have hPc : va_P E.1 vwCl ([[(h0, .inr (9, [.int th, .ref k1, .int sd, .ref k2, .ref k3, .int ln, .int at0, .int pt, .int mi, .int nu, .long ha]))], [(k1, .inl (E.2 0, 1160, .inl (m_mp1 sv b p)))]] : List va_W).flatten H := zf_sub hP [0, 1] rfl
    have hDc : va_D A ([[(h0, .inr (9, [.int th, .ref k1, .int sd, .ref k2, .ref k3, .int ln, .int at0, .int pt, .int mi, .int nu, .long ha]))], [(k1, .inl (E.2 0, 1160, .inl (m_mp1 sv b p)))]] : List va_W).flatten := zf_subD hD [0, 1] (by decide) rfl
    refine z_mut (Sc := [[(h0, .inr (9, [.int th, .ref k1, .int sd, .ref k2, .ref k3, .int ln, .int at0, .int pt, .int mi, .int nu, .long ha]))], [(k1, .inl (E.2 0, 1160, .inl (m_mp1 sv b p)))]]) (Sr := []) (W1 := [[(h0, .inr (9, [.int th, .ref k1, .int sd, .ref k2, .ref k3, .int ln, .int at0, .int pt, .int mi, .int nu, .long ha]))], [(k1, .inl (E.2 0, 1160, .inl (m_clA (m_mp1 sv b p) b)))]]) (va_runV (As := [.int (nI b)]) (rest := []) ⟨hx, hb, hml, hown, hts⟩ (c_X10_climbs l E h0 k1 k2 k3 th sd ln at0 pt mi nu ha (nI b) b rfl (by omega) (m_mp1 sv b p) H.size) (cwV 1 hts gX10_minutePasses_X10_climbs rfl rfl rfl (by decide +kernel) ⟨Nat.le_of_ble_eq_true rfl, Nat.le_of_ble_eq_true rfl⟩) ⟨zP.blind, va_recv hK.1 hPc (ci := 9) (q0 := 0) rfl rfl, z_pre hK hPc hDc⟩ rfl rfl hl.1 rfl (lv_room (Nat.le_of_ble_eq_true rfl)) dX10_minutePasses_56 ⟨Nat.le_of_ble_eq_true rfl, Nat.le_of_ble_eq_true rfl⟩) hP hD hS hA [0, 1] [] rfl rfl (by decide) (by decide) (fun H locs hP hD hS => ?_)
    have hP : va_P E.1 vwCl ([[(h0, .inr (9, [.int th, .ref k1, .int sd, .ref k2, .ref k3, .int ln, .int at0, .int pt, .int mi, .int nu, .long ha]))], [(k1, .inl (E.2 0, 1160, .inl (m_clA (m_mp1 sv b p) b)))]] : List va_W).flatten H := hP
    have hD : va_D A ([[(h0, .inr (9, [.int th, .ref k1, .int sd, .ref k2, .ref k3, .int ln, .int at0, .int pt, .int mi, .int nu, .long ha]))], [(k1, .inl (E.2 0, 1160, .inl (m_clA (m_mp1 sv b p) b)))]] : List va_W).flatten := hD
    refine W.eq (g2 := F0 Mi 59 ls []) rfl ?_
    have em : m_clA (m_mp1 sv b p) b = m_mp2 sv b m p := by rw [m_mp2, if_neg c_30]
    rw [em] at hP hD
    refine lv_aload_n hx hb dX10_minutePasses_59 rfl (lv_at hl 0 rfl) ?_
    refine lv_iload_n hx hb dX10_minutePasses_60 rfl (lv_at hl 1 rfl) ?_
    have hPc : va_P E.1 vwCl ([[(h0, .inr (9, [.int th, .ref k1, .int sd, .ref k2, .ref k3, .int ln, .int at0, .int pt, .int mi, .int nu, .long ha]))], [(k1, .inl (E.2 0, 1160, .inl (m_mp2 sv b m p)))]] : List va_W).flatten H := zf_sub hP [0, 1] rfl
    refine z_rdv (va_runV (As := [.int (nI b)]) (rest := []) ⟨hx, hb, hml, hown, hts⟩ (c_X10_hasAlarm l E h0 k1 k2 k3 th sd ln at0 pt mi nu ha (nI b) b rfl (by omega) (m_mp2 sv b m p) (m_mpn sv b m) (m_mp2_14 hm) (m_mpn_le hm6)) (cwV 1 hts gX10_minutePasses_X10_hasAlarm rfl rfl rfl (by decide +kernel) ⟨Nat.le_of_ble_eq_true rfl, Nat.le_of_ble_eq_true rfl⟩) ⟨zPr.blind, va_recv hK.1 hPc (ci := 9) (q0 := 0) rfl rfl, z_prer hK hPc⟩ rfl rfl hl.1 rfl (lv_room (Nat.le_of_ble_eq_true rfl)) dX10_minutePasses_61 ⟨Nat.le_of_ble_eq_true rfl, Nat.le_of_ble_eq_true rfl⟩) ?_
    refine W.eq (g2 := F0 Mi 64 ls [.int (m_alM (m_mp2 sv b m p) b (m_mpn sv b m))]) rfl ?_
    refine lv_topi (fun f_1 ef_1 => ?_)
    refine lv_istore_n (lv' := [(3, .int f_1), (0, .ref h0), (1, .int (nI b)), (2, .int p)]) hx hb dX10_minutePasses_64 rfl hl (by decide) rfl (fun ls hl => ?_)
    refine lv_aload_n hx hb dX10_minutePasses_65 rfl (lv_at hl 1 rfl) ?_
    refine va_get (D := E.1) (ci := 9) (v := .ref k1) (C := RX10) (T := TX10) (N := 11) hx hb hts hi_X10 hown hK.1 hP 0 rfl rfl 1 (by decide) (hts (.fieldLink RX10 7 "AltimeterWatchModel" "s" "[I") (by decide +kernel)) (fun _ h9 => h9) rfl dX10_minutePasses_66 ?_
    refine lv_iload_n hx hb dX10_minutePasses_69 rfl (lv_at hl 2 rfl) ?_
    refine lv_bipush (v := 12) hx hb dX10_minutePasses_70 (by decide) ?_
    refine lv_iadd hx hb dX10_minutePasses_72 ?_
    refine lv_dup2_11 hx hb dX10_minutePasses_73 rfl rfl ?_
    refine z_iald (k := (b + 12)) hx hb hK.1 hP 1 rfl (z_addI rfl rfl) (by omega) (by decide) dX10_minutePasses_74 ?_
    refine lv_iload_n hx hb dX10_minutePasses_75 rfl (lv_at hl 0 rfl) ?_
    refine lv_if_eq (tgt := 95) hx hb dX10_minutePasses_76 (by decide) (fun c_76 => ?_) (fun c_76 => ?_)
    · refine lv_iconst (v := 0) hx hb dX10_minutePasses_95 (by decide) ?_
      refine z_topi (y := (m_mpk sv b m p)) (by rw [m_mpk, if_pos (show m_mpa sv b m p = 0 from ef_1.symm.trans c_76)]) ?_
      refine lv_iadd hx hb dX10_minutePasses_96 ?_
      refine z_iast (k := (b + 12)) hx hb hK.1 hP hD hS 1 rfl (z_addI rfl rfl) (by omega) (by decide) dX10_minutePasses_97 (fun H locs hP hD hS => ?_)
      have hP : va_P E.1 vwCl ([[(h0, .inr (9, [.int th, .ref k1, .int sd, .ref k2, .ref k3, .int ln, .int at0, .int pt, .int mi, .int nu, .long ha]))], [(k1, .inl (E.2 0, 1160, .inl (upd (m_mp2 sv b m p) (b + 12) (((m_mp2 sv b m p) (b + 12)) + (m_mpk sv b m p)))))]] : List va_W).flatten H := hP
      have hD : va_D A ([[(h0, .inr (9, [.int th, .ref k1, .int sd, .ref k2, .ref k3, .int ln, .int at0, .int pt, .int mi, .int nu, .long ha]))], [(k1, .inl (E.2 0, 1160, .inl (upd (m_mp2 sv b m p) (b + 12) (((m_mp2 sv b m p) (b + 12)) + (m_mpk sv b m p)))))]] : List va_W).flatten := hD
      refine lv_aload_n hx hb dX10_minutePasses_98 rfl (lv_at hl 1 rfl) ?_
      refine va_get (D := E.1) (ci := 9) (v := .ref k1) (C := RX10) (T := TX10) (N := 11) hx hb hts hi_X10 hown hK.1 hP 0 rfl rfl 1 (by decide) (hts (.fieldLink RX10 7 "AltimeterWatchModel" "s" "[I") (by decide +kernel)) (fun _ h9 => h9) rfl dX10_minutePasses_99 ?_
      refine lv_iload_n hx hb dX10_minutePasses_102 rfl (lv_at hl 2 rfl) ?_
      refine lv_bipush (v := 13) hx hb dX10_minutePasses_103 (by decide) ?_
      refine lv_iadd hx hb dX10_minutePasses_105 ?_
      refine lv_iload_n hx hb dX10_minutePasses_106 rfl (lv_at hl 0 rfl) ?_
      refine lv_if_eq (tgt := 114) hx hb dX10_minutePasses_107 (by decide) (fun _ => ?_) (fun h9 => absurd (c_76) h9)
      refine lv_iconst (v := 0) hx hb dX10_minutePasses_114 (by decide) ?_
      refine z_topi (y := (m_mpa sv b m p)) (c_76.symm.trans ef_1) ?_
      refine z_iast (k := (b + 13)) hx hb hK.1 hP hD hS 1 rfl (z_addI rfl rfl) (by omega) (by decide) dX10_minutePasses_115 (fun H locs hP hD hS => ?_)
      have hP : va_P E.1 vwCl ([[(h0, .inr (9, [.int th, .ref k1, .int sd, .ref k2, .ref k3, .int ln, .int at0, .int pt, .int mi, .int nu, .long ha]))], [(k1, .inl (E.2 0, 1160, .inl (upd (upd (m_mp2 sv b m p) (b + 12) (((m_mp2 sv b m p) (b + 12)) + (m_mpk sv b m p))) (b + 13) (m_mpa sv b m p))))]] : List va_W).flatten H := hP
      have hD : va_D A ([[(h0, .inr (9, [.int th, .ref k1, .int sd, .ref k2, .ref k3, .int ln, .int at0, .int pt, .int mi, .int nu, .long ha]))], [(k1, .inl (E.2 0, 1160, .inl (upd (upd (m_mp2 sv b m p) (b + 12) (((m_mp2 sv b m p) (b + 12)) + (m_mpk sv b m p))) (b + 13) (m_mpa sv b m p))))]] : List va_W).flatten := hD
      have hP : va_P E.1 vwCl ([[(h0, .inr (9, [.int th, .ref k1, .int sd, .ref k2, .ref k3, .int ln, .int at0, .int pt, .int mi, .int nu, .long ha]))], [(k1, .inl (E.2 0, 1160, .inl (upd (upd (m_mp2 sv b m p) (b + 12) (((m_mp2 sv b m p) (b + 12)) + (m_mpk sv b m p))) (b + 13) (m_mpa sv b m p))))]] : List va_W).flatten H := zf_sub hP [0, 1] rfl
      have hD : va_D A ([[(h0, .inr (9, [.int th, .ref k1, .int sd, .ref k2, .ref k3, .int ln, .int at0, .int pt, .int mi, .int nu, .long ha]))], [(k1, .inl (E.2 0, 1160, .inl (upd (upd (m_mp2 sv b m p) (b + 12) (((m_mp2 sv b m p) (b + 12)) + (m_mpk sv b m p))) (b + 13) (m_mpa sv b m p))))]] : List va_W).flatten := zf_subD hD [0, 1] (by decide) rfl
      exact W.vret hx hb hr (z_end hP hD hS rfl) hS.2.2 dX10_minutePasses_116 hlocks
    · refine lv_aload_n hx hb dX10_minutePasses_79 rfl (lv_at hl 1 rfl) ?_
      refine va_get (D := E.1) (ci := 9) (v := .ref k1) (C := RX10) (T := TX10) (N := 11) hx hb hts hi_X10 hown hK.1 hP 0 rfl rfl 1 (by decide) (hts (.fieldLink RX10 7 "AltimeterWatchModel" "s" "[I") (by decide +kernel)) (fun _ h9 => h9) rfl dX10_minutePasses_80 ?_
      refine lv_iload_n hx hb dX10_minutePasses_83 rfl (lv_at hl 2 rfl) ?_
      refine lv_bipush (v := 13) hx hb dX10_minutePasses_84 (by decide) ?_
      refine lv_iadd hx hb dX10_minutePasses_86 ?_
      refine z_iald (k := (b + 13)) hx hb hK.1 hP 1 rfl (z_addI rfl rfl) (by omega) (by decide) dX10_minutePasses_87 ?_
      refine lv_if_ne (tgt := 95) hx hb dX10_minutePasses_88 (by decide) (fun c_88 => ?_) (fun c_88 => ?_)
      · refine lv_iconst (v := 0) hx hb dX10_minutePasses_95 (by decide) ?_
        refine z_topi (y := (m_mpk sv b m p)) (by rw [m_mpk, if_neg (show ¬ m_mpa sv b m p = 0 from fun h9 => c_76 (ef_1.trans h9)), if_neg c_88]) ?_
        refine lv_iadd hx hb dX10_minutePasses_96 ?_
        refine z_iast (k := (b + 12)) hx hb hK.1 hP hD hS 1 rfl (z_addI rfl rfl) (by omega) (by decide) dX10_minutePasses_97 (fun H locs hP hD hS => ?_)
        have hP : va_P E.1 vwCl ([[(h0, .inr (9, [.int th, .ref k1, .int sd, .ref k2, .ref k3, .int ln, .int at0, .int pt, .int mi, .int nu, .long ha]))], [(k1, .inl (E.2 0, 1160, .inl (upd (m_mp2 sv b m p) (b + 12) (((m_mp2 sv b m p) (b + 12)) + (m_mpk sv b m p)))))]] : List va_W).flatten H := hP
        have hD : va_D A ([[(h0, .inr (9, [.int th, .ref k1, .int sd, .ref k2, .ref k3, .int ln, .int at0, .int pt, .int mi, .int nu, .long ha]))], [(k1, .inl (E.2 0, 1160, .inl (upd (m_mp2 sv b m p) (b + 12) (((m_mp2 sv b m p) (b + 12)) + (m_mpk sv b m p)))))]] : List va_W).flatten := hD
        refine lv_aload_n hx hb dX10_minutePasses_98 rfl (lv_at hl 1 rfl) ?_
        refine va_get (D := E.1) (ci := 9) (v := .ref k1) (C := RX10) (T := TX10) (N := 11) hx hb hts hi_X10 hown hK.1 hP 0 rfl rfl 1 (by decide) (hts (.fieldLink RX10 7 "AltimeterWatchModel" "s" "[I") (by decide +kernel)) (fun _ h9 => h9) rfl dX10_minutePasses_99 ?_
        refine lv_iload_n hx hb dX10_minutePasses_102 rfl (lv_at hl 2 rfl) ?_
        refine lv_bipush (v := 13) hx hb dX10_minutePasses_103 (by decide) ?_
        refine lv_iadd hx hb dX10_minutePasses_105 ?_
        refine lv_iload_n hx hb dX10_minutePasses_106 rfl (lv_at hl 0 rfl) ?_
        refine lv_if_eq (tgt := 114) hx hb dX10_minutePasses_107 (by decide) (fun h9 => absurd h9 (c_76)) (fun _ => ?_)
        refine lv_iconst (v := 1) hx hb dX10_minutePasses_110 (by decide) ?_
        refine lv_goto (tgt := 115) hx hb dX10_minutePasses_111 (by decide) ?_
        refine z_topi (y := (m_mpa sv b m p)) ((m_alM01 _ _ _).resolve_left (fun h9 => c_76 (ef_1.trans h9))).symm ?_
        refine z_iast (k := (b + 13)) hx hb hK.1 hP hD hS 1 rfl (z_addI rfl rfl) (by omega) (by decide) dX10_minutePasses_115 (fun H locs hP hD hS => ?_)
        have hP : va_P E.1 vwCl ([[(h0, .inr (9, [.int th, .ref k1, .int sd, .ref k2, .ref k3, .int ln, .int at0, .int pt, .int mi, .int nu, .long ha]))], [(k1, .inl (E.2 0, 1160, .inl (upd (upd (m_mp2 sv b m p) (b + 12) (((m_mp2 sv b m p) (b + 12)) + (m_mpk sv b m p))) (b + 13) (m_mpa sv b m p))))]] : List va_W).flatten H := hP
        have hD : va_D A ([[(h0, .inr (9, [.int th, .ref k1, .int sd, .ref k2, .ref k3, .int ln, .int at0, .int pt, .int mi, .int nu, .long ha]))], [(k1, .inl (E.2 0, 1160, .inl (upd (upd (m_mp2 sv b m p) (b + 12) (((m_mp2 sv b m p) (b + 12)) + (m_mpk sv b m p))) (b + 13) (m_mpa sv b m p))))]] : List va_W).flatten := hD
        have hP : va_P E.1 vwCl ([[(h0, .inr (9, [.int th, .ref k1, .int sd, .ref k2, .ref k3, .int ln, .int at0, .int pt, .int mi, .int nu, .long ha]))], [(k1, .inl (E.2 0, 1160, .inl (upd (upd (m_mp2 sv b m p) (b + 12) (((m_mp2 sv b m p) (b + 12)) + (m_mpk sv b m p))) (b + 13) (m_mpa sv b m p))))]] : List va_W).flatten H := zf_sub hP [0, 1] rfl
        have hD : va_D A ([[(h0, .inr (9, [.int th, .ref k1, .int sd, .ref k2, .ref k3, .int ln, .int at0, .int pt, .int mi, .int nu, .long ha]))], [(k1, .inl (E.2 0, 1160, .inl (upd (upd (m_mp2 sv b m p) (b + 12) (((m_mp2 sv b m p) (b + 12)) + (m_mpk sv b m p))) (b + 13) (m_mpa sv b m p))))]] : List va_W).flatten := zf_subD hD [0, 1] (by decide) rfl
        exact W.vret hx hb hr (z_end hP hD hS rfl) hS.2.2 dX10_minutePasses_116 hlocks
      · refine lv_iconst (v := 1) hx hb dX10_minutePasses_91 (by decide) ?_
        refine lv_goto (tgt := 96) hx hb dX10_minutePasses_92 (by decide) ?_
        refine z_topi (y := (m_mpk sv b m p)) (by rw [m_mpk, if_neg (show ¬ m_mpa sv b m p = 0 from fun h9 => c_76 (ef_1.trans h9)), if_pos c_88]) ?_
        refine lv_iadd hx hb dX10_minutePasses_96 ?_
        refine z_iast (k := (b + 12)) hx hb hK.1 hP hD hS 1 rfl (z_addI rfl rfl) (by omega) (by decide) dX10_minutePasses_97 (fun H locs hP hD hS => ?_)
        have hP : va_P E.1 vwCl ([[(h0, .inr (9, [.int th, .ref k1, .int sd, .ref k2, .ref k3, .int ln, .int at0, .int pt, .int mi, .int nu, .long ha]))], [(k1, .inl (E.2 0, 1160, .inl (upd (m_mp2 sv b m p) (b + 12) (((m_mp2 sv b m p) (b + 12)) + (m_mpk sv b m p)))))]] : List va_W).flatten H := hP
        have hD : va_D A ([[(h0, .inr (9, [.int th, .ref k1, .int sd, .ref k2, .ref k3, .int ln, .int at0, .int pt, .int mi, .int nu, .long ha]))], [(k1, .inl (E.2 0, 1160, .inl (upd (m_mp2 sv b m p) (b + 12) (((m_mp2 sv b m p) (b + 12)) + (m_mpk sv b m p)))))]] : List va_W).flatten := hD
        refine lv_aload_n hx hb dX10_minutePasses_98 rfl (lv_at hl 1 rfl) ?_
        refine va_get (D := E.1) (ci := 9) (v := .ref k1) (C := RX10) (T := TX10) (N := 11) hx hb hts hi_X10 hown hK.1 hP 0 rfl rfl 1 (by decide) (hts (.fieldLink RX10 7 "AltimeterWatchModel" "s" "[I") (by decide +kernel)) (fun _ h9 => h9) rfl dX10_minutePasses_99 ?_
        refine lv_iload_n hx hb dX10_minutePasses_102 rfl (lv_at hl 2 rfl) ?_
        refine lv_bipush (v := 13) hx hb dX10_minutePasses_103 (by decide) ?_
        refine lv_iadd hx hb dX10_minutePasses_105 ?_
        refine lv_iload_n hx hb dX10_minutePasses_106 rfl (lv_at hl 0 rfl) ?_
        refine lv_if_eq (tgt := 114) hx hb dX10_minutePasses_107 (by decide) (fun h9 => absurd h9 (c_76)) (fun _ => ?_)
        refine lv_iconst (v := 1) hx hb dX10_minutePasses_110 (by decide) ?_
        refine lv_goto (tgt := 115) hx hb dX10_minutePasses_111 (by decide) ?_
        refine z_topi (y := (m_mpa sv b m p)) ((m_alM01 _ _ _).resolve_left (fun h9 => c_76 (ef_1.trans h9))).symm ?_
        refine z_iast (k := (b + 13)) hx hb hK.1 hP hD hS 1 rfl (z_addI rfl rfl) (by omega) (by decide) dX10_minutePasses_115 (fun H locs hP hD hS => ?_)
        have hP : va_P E.1 vwCl ([[(h0, .inr (9, [.int th, .ref k1, .int sd, .ref k2, .ref k3, .int ln, .int at0, .int pt, .int mi, .int nu, .long ha]))], [(k1, .inl (E.2 0, 1160, .inl (upd (upd (m_mp2 sv b m p) (b + 12) (((m_mp2 sv b m p) (b + 12)) + (m_mpk sv b m p))) (b + 13) (m_mpa sv b m p))))]] : List va_W).flatten H := hP
        have hD : va_D A ([[(h0, .inr (9, [.int th, .ref k1, .int sd, .ref k2, .ref k3, .int ln, .int at0, .int pt, .int mi, .int nu, .long ha]))], [(k1, .inl (E.2 0, 1160, .inl (upd (upd (m_mp2 sv b m p) (b + 12) (((m_mp2 sv b m p) (b + 12)) + (m_mpk sv b m p))) (b + 13) (m_mpa sv b m p))))]] : List va_W).flatten := hD
        have hP : va_P E.1 vwCl ([[(h0, .inr (9, [.int th, .ref k1, .int sd, .ref k2, .ref k3, .int ln, .int at0, .int pt, .int mi, .int nu, .long ha]))], [(k1, .inl (E.2 0, 1160, .inl (upd (upd (m_mp2 sv b m p) (b + 12) (((m_mp2 sv b m p) (b + 12)) + (m_mpk sv b m p))) (b + 13) (m_mpa sv b m p))))]] : List va_W).flatten H := zf_sub hP [0, 1] rfl
        have hD : va_D A ([[(h0, .inr (9, [.int th, .ref k1, .int sd, .ref k2, .ref k3, .int ln, .int at0, .int pt, .int mi, .int nu, .long ha]))], [(k1, .inl (E.2 0, 1160, .inl (upd (upd (m_mp2 sv b m p) (b + 12) (((m_mp2 sv b m p) (b + 12)) + (m_mpk sv b m p))) (b + 13) (m_mpa sv b m p))))]] : List va_W).flatten := zf_subD hD [0, 1] (by decide) rfl
        exact W.vret hx hb hr (z_end hP hD hS rfl) hS.2.2 dX10_minutePasses_116 hlocks
  · refine lv_aload_n hx hb dX10_minutePasses_33 rfl (lv_at hl 0 rfl) ?_
    refine lv_iload_n hx hb dX10_minutePasses_34 rfl (lv_at hl 1 rfl) ?_
    refine lv_aload_n hx hb dX10_minutePasses_35 rfl (lv_at hl 0 rfl) ?_
    refine va_get (D := E.1) (ci := 9) (v := .ref k1) (C := RX10) (T := TX10) (N := 11) hx hb hts hi_X10 hown hK.1 hP 0 rfl rfl 1 (by decide) (hts (.fieldLink RX10 7 "AltimeterWatchModel" "s" "[I") (by decide +kernel)) (fun _ h9 => h9) rfl dX10_minutePasses_36 ?_
    refine lv_iload_n hx hb dX10_minutePasses_39 rfl (lv_at hl 1 rfl) ?_
    refine lv_iconst (v := 3) hx hb dX10_minutePasses_40 (by decide) ?_
    refine lv_iadd hx hb dX10_minutePasses_41 ?_
    refine z_iald (k := (b + 3)) hx hb hK.1 hP 1 rfl (z_addI rfl rfl) (by omega) (by decide) dX10_minutePasses_42 ?_
    refine z_topi (y := (sv (b + 3))) (by simp [m_mp1, upd]) ?_
    have hPc : va_P E.1 vwCl ([[(h0, .inr (9, [.int th, .ref k1, .int sd, .ref k2, .ref k3, .int ln, .int at0, .int pt, .int mi, .int nu, .long ha]))], [(k1, .inl (E.2 0, 1160, .inl (m_mp1 sv b p)))]] : List va_W).flatten H := zf_sub hP [0, 1] rfl
    have hDc : va_D A ([[(h0, .inr (9, [.int th, .ref k1, .int sd, .ref k2, .ref k3, .int ln, .int at0, .int pt, .int mi, .int nu, .long ha]))], [(k1, .inl (E.2 0, 1160, .inl (m_mp1 sv b p)))]] : List va_W).flatten := zf_subD hD [0, 1] (by decide) rfl
    refine z_mut (Sc := [[(h0, .inr (9, [.int th, .ref k1, .int sd, .ref k2, .ref k3, .int ln, .int at0, .int pt, .int mi, .int nu, .long ha]))], [(k1, .inl (E.2 0, 1160, .inl (m_mp1 sv b p)))]]) (Sr := []) (W1 := [[(h0, .inr (9, [.int th, .ref k1, .int sd, .ref k2, .ref k3, .int ln, .int at0, .int pt, .int mi, .int nu, .long ha]))], [(k1, .inl (E.2 0, 1160, .inl (upd (m_mp1 sv b p) (b + 1) (m_bst ((m_mp1 sv b p) (b + 0)) (sv (b + 3))))))]]) (va_runV (As := [.int (nI b), .int (sv (b + 3))]) (rest := []) ⟨hx, hb, hml, hown, hts⟩ (c_X10_adjusts l E h0 k1 k2 k3 th sd ln at0 pt mi nu ha (nI b) b rfl (by omega) (m_mp1 sv b p) (sv (b + 3)) H.size) (cwV 2 hts gX10_minutePasses_X10_adjusts rfl rfl rfl (by decide +kernel) ⟨Nat.le_of_ble_eq_true rfl, Nat.le_of_ble_eq_true rfl⟩) ⟨zP.blind, va_recv hK.1 hPc (ci := 9) (q0 := 0) rfl rfl, z_pre hK hPc hDc⟩ rfl rfl hl.1 rfl (lv_room (Nat.le_of_ble_eq_true rfl)) dX10_minutePasses_43 ⟨Nat.le_of_ble_eq_true rfl, Nat.le_of_ble_eq_true rfl⟩) hP hD hS hA [0, 1] [] rfl rfl (by decide) (by decide) (fun H locs hP hD hS => ?_)
    have hP : va_P E.1 vwCl ([[(h0, .inr (9, [.int th, .ref k1, .int sd, .ref k2, .ref k3, .int ln, .int at0, .int pt, .int mi, .int nu, .long ha]))], [(k1, .inl (E.2 0, 1160, .inl (upd (m_mp1 sv b p) (b + 1) (m_bst ((m_mp1 sv b p) (b + 0)) (sv (b + 3))))))]] : List va_W).flatten H := hP
    have hD : va_D A ([[(h0, .inr (9, [.int th, .ref k1, .int sd, .ref k2, .ref k3, .int ln, .int at0, .int pt, .int mi, .int nu, .long ha]))], [(k1, .inl (E.2 0, 1160, .inl (upd (m_mp1 sv b p) (b + 1) (m_bst ((m_mp1 sv b p) (b + 0)) (sv (b + 3))))))]] : List va_W).flatten := hD
    refine W.eq (g2 := F0 Mi 46 ls []) rfl ?_
    refine lv_aload_n hx hb dX10_minutePasses_46 rfl (lv_at hl 0 rfl) ?_
    refine lv_iload_n hx hb dX10_minutePasses_47 rfl (lv_at hl 1 rfl) ?_
    have hPc : va_P E.1 vwCl ([[(h0, .inr (9, [.int th, .ref k1, .int sd, .ref k2, .ref k3, .int ln, .int at0, .int pt, .int mi, .int nu, .long ha]))], [(k1, .inl (E.2 0, 1160, .inl (upd (m_mp1 sv b p) (b + 1) (m_bst ((m_mp1 sv b p) (b + 0)) (sv (b + 3))))))]] : List va_W).flatten H := zf_sub hP [0, 1] rfl
    have hDc : va_D A ([[(h0, .inr (9, [.int th, .ref k1, .int sd, .ref k2, .ref k3, .int ln, .int at0, .int pt, .int mi, .int nu, .long ha]))], [(k1, .inl (E.2 0, 1160, .inl (upd (m_mp1 sv b p) (b + 1) (m_bst ((m_mp1 sv b p) (b + 0)) (sv (b + 3))))))]] : List va_W).flatten := zf_subD hD [0, 1] (by decide) rfl
    refine z_mut (Sc := [[(h0, .inr (9, [.int th, .ref k1, .int sd, .ref k2, .ref k3, .int ln, .int at0, .int pt, .int mi, .int nu, .long ha]))], [(k1, .inl (E.2 0, 1160, .inl (upd (m_mp1 sv b p) (b + 1) (m_bst ((m_mp1 sv b p) (b + 0)) (sv (b + 3))))))]]) (Sr := []) (W1 := [[(h0, .inr (9, [.int th, .ref k1, .int sd, .ref k2, .ref k3, .int ln, .int at0, .int pt, .int mi, .int nu, .long ha]))], [(k1, .inl (E.2 0, 1160, .inl (m_lgA (upd (m_mp1 sv b p) (b + 1) (m_bst ((m_mp1 sv b p) (b + 0)) (sv (b + 3)))) b m)))]]) (va_runV (As := [.int (nI b)]) (rest := []) ⟨hx, hb, hml, hown, hts⟩ (c_X10_logs l E h0 k1 k2 k3 th sd ln at0 pt mi nu ha (nI b) b rfl (by omega) (upd (m_mp1 sv b p) (b + 1) (m_bst ((m_mp1 sv b p) (b + 0)) (sv (b + 3)))) m (by simp [m_mp1, upd]; exact hm) hm6 H.size) (cwV 1 hts gX10_minutePasses_X10_logs rfl rfl rfl (by decide +kernel) ⟨Nat.le_of_ble_eq_true rfl, Nat.le_of_ble_eq_true rfl⟩) ⟨zP.blind, va_recv hK.1 hPc (ci := 9) (q0 := 0) rfl rfl, z_pre hK hPc hDc⟩ rfl rfl hl.1 rfl (lv_room (Nat.le_of_ble_eq_true rfl)) dX10_minutePasses_48 ⟨Nat.le_of_ble_eq_true rfl, Nat.le_of_ble_eq_true rfl⟩) hP hD hS hA [0, 1] [] rfl rfl (by decide) (by decide) (fun H locs hP hD hS => ?_)
    have hP : va_P E.1 vwCl ([[(h0, .inr (9, [.int th, .ref k1, .int sd, .ref k2, .ref k3, .int ln, .int at0, .int pt, .int mi, .int nu, .long ha]))], [(k1, .inl (E.2 0, 1160, .inl (m_lgA (upd (m_mp1 sv b p) (b + 1) (m_bst ((m_mp1 sv b p) (b + 0)) (sv (b + 3)))) b m)))]] : List va_W).flatten H := hP
    have hD : va_D A ([[(h0, .inr (9, [.int th, .ref k1, .int sd, .ref k2, .ref k3, .int ln, .int at0, .int pt, .int mi, .int nu, .long ha]))], [(k1, .inl (E.2 0, 1160, .inl (m_lgA (upd (m_mp1 sv b p) (b + 1) (m_bst ((m_mp1 sv b p) (b + 0)) (sv (b + 3)))) b m)))]] : List va_W).flatten := hD
    refine W.eq (g2 := F0 Mi 51 ls []) rfl ?_
    refine lv_goto (tgt := 59) hx hb dX10_minutePasses_51 (by decide) ?_
    have em : m_lgA (upd (m_mp1 sv b p) (b + 1) (m_bst ((m_mp1 sv b p) (b + 0)) (sv (b + 3)))) b m = m_mp2 sv b m p := by rw [m_mp2, if_pos c_30]
    rw [em] at hP hD
    refine lv_aload_n hx hb dX10_minutePasses_59 rfl (lv_at hl 0 rfl) ?_
    refine lv_iload_n hx hb dX10_minutePasses_60 rfl (lv_at hl 1 rfl) ?_
    have hPc : va_P E.1 vwCl ([[(h0, .inr (9, [.int th, .ref k1, .int sd, .ref k2, .ref k3, .int ln, .int at0, .int pt, .int mi, .int nu, .long ha]))], [(k1, .inl (E.2 0, 1160, .inl (m_mp2 sv b m p)))]] : List va_W).flatten H := zf_sub hP [0, 1] rfl
    refine z_rdv (va_runV (As := [.int (nI b)]) (rest := []) ⟨hx, hb, hml, hown, hts⟩ (c_X10_hasAlarm l E h0 k1 k2 k3 th sd ln at0 pt mi nu ha (nI b) b rfl (by omega) (m_mp2 sv b m p) (m_mpn sv b m) (m_mp2_14 hm) (m_mpn_le hm6)) (cwV 1 hts gX10_minutePasses_X10_hasAlarm rfl rfl rfl (by decide +kernel) ⟨Nat.le_of_ble_eq_true rfl, Nat.le_of_ble_eq_true rfl⟩) ⟨zPr.blind, va_recv hK.1 hPc (ci := 9) (q0 := 0) rfl rfl, z_prer hK hPc⟩ rfl rfl hl.1 rfl (lv_room (Nat.le_of_ble_eq_true rfl)) dX10_minutePasses_61 ⟨Nat.le_of_ble_eq_true rfl, Nat.le_of_ble_eq_true rfl⟩) ?_
    refine W.eq (g2 := F0 Mi 64 ls [.int (m_alM (m_mp2 sv b m p) b (m_mpn sv b m))]) rfl ?_
    refine lv_topi (fun f_2 ef_2 => ?_)
    refine lv_istore_n (lv' := [(3, .int f_2), (0, .ref h0), (1, .int (nI b)), (2, .int p)]) hx hb dX10_minutePasses_64 rfl hl (by decide) rfl (fun ls hl => ?_)
    refine lv_aload_n hx hb dX10_minutePasses_65 rfl (lv_at hl 1 rfl) ?_
    refine va_get (D := E.1) (ci := 9) (v := .ref k1) (C := RX10) (T := TX10) (N := 11) hx hb hts hi_X10 hown hK.1 hP 0 rfl rfl 1 (by decide) (hts (.fieldLink RX10 7 "AltimeterWatchModel" "s" "[I") (by decide +kernel)) (fun _ h9 => h9) rfl dX10_minutePasses_66 ?_
    refine lv_iload_n hx hb dX10_minutePasses_69 rfl (lv_at hl 2 rfl) ?_
    refine lv_bipush (v := 12) hx hb dX10_minutePasses_70 (by decide) ?_
    refine lv_iadd hx hb dX10_minutePasses_72 ?_
    refine lv_dup2_11 hx hb dX10_minutePasses_73 rfl rfl ?_
    refine z_iald (k := (b + 12)) hx hb hK.1 hP 1 rfl (z_addI rfl rfl) (by omega) (by decide) dX10_minutePasses_74 ?_
    refine lv_iload_n hx hb dX10_minutePasses_75 rfl (lv_at hl 0 rfl) ?_
    refine lv_if_eq (tgt := 95) hx hb dX10_minutePasses_76 (by decide) (fun c_76 => ?_) (fun c_76 => ?_)
    · refine lv_iconst (v := 0) hx hb dX10_minutePasses_95 (by decide) ?_
      refine z_topi (y := (m_mpk sv b m p)) (by rw [m_mpk, if_pos (show m_mpa sv b m p = 0 from ef_2.symm.trans c_76)]) ?_
      refine lv_iadd hx hb dX10_minutePasses_96 ?_
      refine z_iast (k := (b + 12)) hx hb hK.1 hP hD hS 1 rfl (z_addI rfl rfl) (by omega) (by decide) dX10_minutePasses_97 (fun H locs hP hD hS => ?_)
      have hP : va_P E.1 vwCl ([[(h0, .inr (9, [.int th, .ref k1, .int sd, .ref k2, .ref k3, .int ln, .int at0, .int pt, .int mi, .int nu, .long ha]))], [(k1, .inl (E.2 0, 1160, .inl (upd (m_mp2 sv b m p) (b + 12) (((m_mp2 sv b m p) (b + 12)) + (m_mpk sv b m p)))))]] : List va_W).flatten H := hP
      have hD : va_D A ([[(h0, .inr (9, [.int th, .ref k1, .int sd, .ref k2, .ref k3, .int ln, .int at0, .int pt, .int mi, .int nu, .long ha]))], [(k1, .inl (E.2 0, 1160, .inl (upd (m_mp2 sv b m p) (b + 12) (((m_mp2 sv b m p) (b + 12)) + (m_mpk sv b m p)))))]] : List va_W).flatten := hD
      refine lv_aload_n hx hb dX10_minutePasses_98 rfl (lv_at hl 1 rfl) ?_
      refine va_get (D := E.1) (ci := 9) (v := .ref k1) (C := RX10) (T := TX10) (N := 11) hx hb hts hi_X10 hown hK.1 hP 0 rfl rfl 1 (by decide) (hts (.fieldLink RX10 7 "AltimeterWatchModel" "s" "[I") (by decide +kernel)) (fun _ h9 => h9) rfl dX10_minutePasses_99 ?_
      refine lv_iload_n hx hb dX10_minutePasses_102 rfl (lv_at hl 2 rfl) ?_
      refine lv_bipush (v := 13) hx hb dX10_minutePasses_103 (by decide) ?_
      refine lv_iadd hx hb dX10_minutePasses_105 ?_
      refine lv_iload_n hx hb dX10_minutePasses_106 rfl (lv_at hl 0 rfl) ?_
      refine lv_if_eq (tgt := 114) hx hb dX10_minutePasses_107 (by decide) (fun _ => ?_) (fun h9 => absurd (c_76) h9)
      refine lv_iconst (v := 0) hx hb dX10_minutePasses_114 (by decide) ?_
      refine z_topi (y := (m_mpa sv b m p)) (c_76.symm.trans ef_2) ?_
      refine z_iast (k := (b + 13)) hx hb hK.1 hP hD hS 1 rfl (z_addI rfl rfl) (by omega) (by decide) dX10_minutePasses_115 (fun H locs hP hD hS => ?_)
      have hP : va_P E.1 vwCl ([[(h0, .inr (9, [.int th, .ref k1, .int sd, .ref k2, .ref k3, .int ln, .int at0, .int pt, .int mi, .int nu, .long ha]))], [(k1, .inl (E.2 0, 1160, .inl (upd (upd (m_mp2 sv b m p) (b + 12) (((m_mp2 sv b m p) (b + 12)) + (m_mpk sv b m p))) (b + 13) (m_mpa sv b m p))))]] : List va_W).flatten H := hP
      have hD : va_D A ([[(h0, .inr (9, [.int th, .ref k1, .int sd, .ref k2, .ref k3, .int ln, .int at0, .int pt, .int mi, .int nu, .long ha]))], [(k1, .inl (E.2 0, 1160, .inl (upd (upd (m_mp2 sv b m p) (b + 12) (((m_mp2 sv b m p) (b + 12)) + (m_mpk sv b m p))) (b + 13) (m_mpa sv b m p))))]] : List va_W).flatten := hD
      have hP : va_P E.1 vwCl ([[(h0, .inr (9, [.int th, .ref k1, .int sd, .ref k2, .ref k3, .int ln, .int at0, .int pt, .int mi, .int nu, .long ha]))], [(k1, .inl (E.2 0, 1160, .inl (upd (upd (m_mp2 sv b m p) (b + 12) (((m_mp2 sv b m p) (b + 12)) + (m_mpk sv b m p))) (b + 13) (m_mpa sv b m p))))]] : List va_W).flatten H := zf_sub hP [0, 1] rfl
      have hD : va_D A ([[(h0, .inr (9, [.int th, .ref k1, .int sd, .ref k2, .ref k3, .int ln, .int at0, .int pt, .int mi, .int nu, .long ha]))], [(k1, .inl (E.2 0, 1160, .inl (upd (upd (m_mp2 sv b m p) (b + 12) (((m_mp2 sv b m p) (b + 12)) + (m_mpk sv b m p))) (b + 13) (m_mpa sv b m p))))]] : List va_W).flatten := zf_subD hD [0, 1] (by decide) rfl
      exact W.vret hx hb hr (z_end hP hD hS rfl) hS.2.2 dX10_minutePasses_116 hlocks
    · refine lv_aload_n hx hb dX10_minutePasses_79 rfl (lv_at hl 1 rfl) ?_
      refine va_get (D := E.1) (ci := 9) (v := .ref k1) (C := RX10) (T := TX10) (N := 11) hx hb hts hi_X10 hown hK.1 hP 0 rfl rfl 1 (by decide) (hts (.fieldLink RX10 7 "AltimeterWatchModel" "s" "[I") (by decide +kernel)) (fun _ h9 => h9) rfl dX10_minutePasses_80 ?_
      refine lv_iload_n hx hb dX10_minutePasses_83 rfl (lv_at hl 2 rfl) ?_
      refine lv_bipush (v := 13) hx hb dX10_minutePasses_84 (by decide) ?_
      refine lv_iadd hx hb dX10_minutePasses_86 ?_
      refine z_iald (k := (b + 13)) hx hb hK.1 hP 1 rfl (z_addI rfl rfl) (by omega) (by decide) dX10_minutePasses_87 ?_
      refine lv_if_ne (tgt := 95) hx hb dX10_minutePasses_88 (by decide) (fun c_88 => ?_) (fun c_88 => ?_)
      · refine lv_iconst (v := 0) hx hb dX10_minutePasses_95 (by decide) ?_
        refine z_topi (y := (m_mpk sv b m p)) (by rw [m_mpk, if_neg (show ¬ m_mpa sv b m p = 0 from fun h9 => c_76 (ef_2.trans h9)), if_neg c_88]) ?_
        refine lv_iadd hx hb dX10_minutePasses_96 ?_
        refine z_iast (k := (b + 12)) hx hb hK.1 hP hD hS 1 rfl (z_addI rfl rfl) (by omega) (by decide) dX10_minutePasses_97 (fun H locs hP hD hS => ?_)
        have hP : va_P E.1 vwCl ([[(h0, .inr (9, [.int th, .ref k1, .int sd, .ref k2, .ref k3, .int ln, .int at0, .int pt, .int mi, .int nu, .long ha]))], [(k1, .inl (E.2 0, 1160, .inl (upd (m_mp2 sv b m p) (b + 12) (((m_mp2 sv b m p) (b + 12)) + (m_mpk sv b m p)))))]] : List va_W).flatten H := hP
        have hD : va_D A ([[(h0, .inr (9, [.int th, .ref k1, .int sd, .ref k2, .ref k3, .int ln, .int at0, .int pt, .int mi, .int nu, .long ha]))], [(k1, .inl (E.2 0, 1160, .inl (upd (m_mp2 sv b m p) (b + 12) (((m_mp2 sv b m p) (b + 12)) + (m_mpk sv b m p)))))]] : List va_W).flatten := hD
        refine lv_aload_n hx hb dX10_minutePasses_98 rfl (lv_at hl 1 rfl) ?_
        refine va_get (D := E.1) (ci := 9) (v := .ref k1) (C := RX10) (T := TX10) (N := 11) hx hb hts hi_X10 hown hK.1 hP 0 rfl rfl 1 (by decide) (hts (.fieldLink RX10 7 "AltimeterWatchModel" "s" "[I") (by decide +kernel)) (fun _ h9 => h9) rfl dX10_minutePasses_99 ?_
        refine lv_iload_n hx hb dX10_minutePasses_102 rfl (lv_at hl 2 rfl) ?_
        refine lv_bipush (v := 13) hx hb dX10_minutePasses_103 (by decide) ?_
        refine lv_iadd hx hb dX10_minutePasses_105 ?_
        refine lv_iload_n hx hb dX10_minutePasses_106 rfl (lv_at hl 0 rfl) ?_
        refine lv_if_eq (tgt := 114) hx hb dX10_minutePasses_107 (by decide) (fun h9 => absurd h9 (c_76)) (fun _ => ?_)
        refine lv_iconst (v := 1) hx hb dX10_minutePasses_110 (by decide) ?_
        refine lv_goto (tgt := 115) hx hb dX10_minutePasses_111 (by decide) ?_
        refine z_topi (y := (m_mpa sv b m p)) ((m_alM01 _ _ _).resolve_left (fun h9 => c_76 (ef_2.trans h9))).symm ?_
        refine z_iast (k := (b + 13)) hx hb hK.1 hP hD hS 1 rfl (z_addI rfl rfl) (by omega) (by decide) dX10_minutePasses_115 (fun H locs hP hD hS => ?_)
        have hP : va_P E.1 vwCl ([[(h0, .inr (9, [.int th, .ref k1, .int sd, .ref k2, .ref k3, .int ln, .int at0, .int pt, .int mi, .int nu, .long ha]))], [(k1, .inl (E.2 0, 1160, .inl (upd (upd (m_mp2 sv b m p) (b + 12) (((m_mp2 sv b m p) (b + 12)) + (m_mpk sv b m p))) (b + 13) (m_mpa sv b m p))))]] : List va_W).flatten H := hP
        have hD : va_D A ([[(h0, .inr (9, [.int th, .ref k1, .int sd, .ref k2, .ref k3, .int ln, .int at0, .int pt, .int mi, .int nu, .long ha]))], [(k1, .inl (E.2 0, 1160, .inl (upd (upd (m_mp2 sv b m p) (b + 12) (((m_mp2 sv b m p) (b + 12)) + (m_mpk sv b m p))) (b + 13) (m_mpa sv b m p))))]] : List va_W).flatten := hD
        have hP : va_P E.1 vwCl ([[(h0, .inr (9, [.int th, .ref k1, .int sd, .ref k2, .ref k3, .int ln, .int at0, .int pt, .int mi, .int nu, .long ha]))], [(k1, .inl (E.2 0, 1160, .inl (upd (upd (m_mp2 sv b m p) (b + 12) (((m_mp2 sv b m p) (b + 12)) + (m_mpk sv b m p))) (b + 13) (m_mpa sv b m p))))]] : List va_W).flatten H := zf_sub hP [0, 1] rfl
        have hD : va_D A ([[(h0, .inr (9, [.int th, .ref k1, .int sd, .ref k2, .ref k3, .int ln, .int at0, .int pt, .int mi, .int nu, .long ha]))], [(k1, .inl (E.2 0, 1160, .inl (upd (upd (m_mp2 sv b m p) (b + 12) (((m_mp2 sv b m p) (b + 12)) + (m_mpk sv b m p))) (b + 13) (m_mpa sv b m p))))]] : List va_W).flatten := zf_subD hD [0, 1] (by decide) rfl
        exact W.vret hx hb hr (z_end hP hD hS rfl) hS.2.2 dX10_minutePasses_116 hlocks
      · refine lv_iconst (v := 1) hx hb dX10_minutePasses_91 (by decide) ?_
        refine lv_goto (tgt := 96) hx hb dX10_minutePasses_92 (by decide) ?_
        refine z_topi (y := (m_mpk sv b m p)) (by rw [m_mpk, if_neg (show ¬ m_mpa sv b m p = 0 from fun h9 => c_76 (ef_2.trans h9)), if_pos c_88]) ?_
        refine lv_iadd hx hb dX10_minutePasses_96 ?_
        refine z_iast (k := (b + 12)) hx hb hK.1 hP hD hS 1 rfl (z_addI rfl rfl) (by omega) (by decide) dX10_minutePasses_97 (fun H locs hP hD hS => ?_)
        have hP : va_P E.1 vwCl ([[(h0, .inr (9, [.int th, .ref k1, .int sd, .ref k2, .ref k3, .int ln, .int at0, .int pt, .int mi, .int nu, .long ha]))], [(k1, .inl (E.2 0, 1160, .inl (upd (m_mp2 sv b m p) (b + 12) (((m_mp2 sv b m p) (b + 12)) + (m_mpk sv b m p)))))]] : List va_W).flatten H := hP
        have hD : va_D A ([[(h0, .inr (9, [.int th, .ref k1, .int sd, .ref k2, .ref k3, .int ln, .int at0, .int pt, .int mi, .int nu, .long ha]))], [(k1, .inl (E.2 0, 1160, .inl (upd (m_mp2 sv b m p) (b + 12) (((m_mp2 sv b m p) (b + 12)) + (m_mpk sv b m p)))))]] : List va_W).flatten := hD
        refine lv_aload_n hx hb dX10_minutePasses_98 rfl (lv_at hl 1 rfl) ?_
        refine va_get (D := E.1) (ci := 9) (v := .ref k1) (C := RX10) (T := TX10) (N := 11) hx hb hts hi_X10 hown hK.1 hP 0 rfl rfl 1 (by decide) (hts (.fieldLink RX10 7 "AltimeterWatchModel" "s" "[I") (by decide +kernel)) (fun _ h9 => h9) rfl dX10_minutePasses_99 ?_
        refine lv_iload_n hx hb dX10_minutePasses_102 rfl (lv_at hl 2 rfl) ?_
        refine lv_bipush (v := 13) hx hb dX10_minutePasses_103 (by decide) ?_
        refine lv_iadd hx hb dX10_minutePasses_105 ?_
        refine lv_iload_n hx hb dX10_minutePasses_106 rfl (lv_at hl 0 rfl) ?_
        refine lv_if_eq (tgt := 114) hx hb dX10_minutePasses_107 (by decide) (fun h9 => absurd h9 (c_76)) (fun _ => ?_)
        refine lv_iconst (v := 1) hx hb dX10_minutePasses_110 (by decide) ?_
        refine lv_goto (tgt := 115) hx hb dX10_minutePasses_111 (by decide) ?_
        refine z_topi (y := (m_mpa sv b m p)) ((m_alM01 _ _ _).resolve_left (fun h9 => c_76 (ef_2.trans h9))).symm ?_
        refine z_iast (k := (b + 13)) hx hb hK.1 hP hD hS 1 rfl (z_addI rfl rfl) (by omega) (by decide) dX10_minutePasses_115 (fun H locs hP hD hS => ?_)
        have hP : va_P E.1 vwCl ([[(h0, .inr (9, [.int th, .ref k1, .int sd, .ref k2, .ref k3, .int ln, .int at0, .int pt, .int mi, .int nu, .long ha]))], [(k1, .inl (E.2 0, 1160, .inl (upd (upd (m_mp2 sv b m p) (b + 12) (((m_mp2 sv b m p) (b + 12)) + (m_mpk sv b m p))) (b + 13) (m_mpa sv b m p))))]] : List va_W).flatten H := hP
        have hD : va_D A ([[(h0, .inr (9, [.int th, .ref k1, .int sd, .ref k2, .ref k3, .int ln, .int at0, .int pt, .int mi, .int nu, .long ha]))], [(k1, .inl (E.2 0, 1160, .inl (upd (upd (m_mp2 sv b m p) (b + 12) (((m_mp2 sv b m p) (b + 12)) + (m_mpk sv b m p))) (b + 13) (m_mpa sv b m p))))]] : List va_W).flatten := hD
        have hP : va_P E.1 vwCl ([[(h0, .inr (9, [.int th, .ref k1, .int sd, .ref k2, .ref k3, .int ln, .int at0, .int pt, .int mi, .int nu, .long ha]))], [(k1, .inl (E.2 0, 1160, .inl (upd (upd (m_mp2 sv b m p) (b + 12) (((m_mp2 sv b m p) (b + 12)) + (m_mpk sv b m p))) (b + 13) (m_mpa sv b m p))))]] : List va_W).flatten H := zf_sub hP [0, 1] rfl
        have hD : va_D A ([[(h0, .inr (9, [.int th, .ref k1, .int sd, .ref k2, .ref k3, .int ln, .int at0, .int pt, .int mi, .int nu, .long ha]))], [(k1, .inl (E.2 0, 1160, .inl (upd (upd (m_mp2 sv b m p) (b + 12) (((m_mp2 sv b m p) (b + 12)) + (m_mpk sv b m p))) (b + 13) (m_mpa sv b m p))))]] : List va_W).flatten := zf_subD hD [0, 1] (by decide) rfl
        exact W.vret hx hb hr (z_end hP hD hS rfl) hS.2.2 dX10_minutePasses_116 hlocks

set_option maxHeartbeats 4000000 in
set_option maxRecDepth 100000 in
theorem c_X10_trips (l : Launch) (E : zE) (h0 k1 k2 k3 : Nat) (th sd ln at0 pt mi nu : Int32) (ha : Int64) (x1 : Int32) (b : Nat) (e1 : x1 = nI b) (hb0 : b ≤ 1044) (sv : Nat → Int32) (m : Nat) (hm : sv (b + 14) = nI m) (hm6 : m ≤ 60) (n p : Int32) (nn : Nat) (hn : n = nI nn) (hnn : nn ≤ 120) : zM l yX10_trips wsX10_trips ({ frames := 4, cells := 0, slots := 0, locals := 87 }) E [.ref h0, .int x1, .int n, .int p] ([[(h0, .inr (9, [.int th, .ref k1, .int sd, .ref k2, .ref k3, .int ln, .int at0, .int pt, .int mi, .int nu, .long ha]))], [(k1, .inl (E.2 0, 1160, .inl sv))]] : List va_W).flatten none ([[(h0, .inr (9, [.int th, .ref k1, .int sd, .ref k2, .ref k3, .int ln, .int at0, .int pt, .int mi, .int nu, .long ha]))], [(k1, .inl (E.2 0, 1160, .inl (m_trA sv b n p nn)))]] : List va_W).flatten 0 0 := by
  subst e1
  refine z_start (cc := cX10_trips) (maxL := 6) (ret := none) (by decide) rfl (Nat.le_of_ble_eq_true rfl) ?_
  intro Pg En s Mi below meth Cd A hx hb hr hts hown hlocks hin hml hA H hH hP hK hD hS ls hl
  have hl : lv_has ls 6 [(0, .ref h0), (1, .int (nI b)), (2, .int n), (3, .int p)] := hl
  have hi_X10 : ∀ w ∈ wsX100, w ∈ wsX10_trips := by decide +kernel
  have LOOP_13 : ∀ (kz : Nat) (i : Nat) (x fr : Int32), nn + 1 < i + kz → i ≤ nn + 1 → 1 ≤ i → x = nI i → fr = sv (b + 0) →  ∀ (H : Heap) (locs : List Loc), va_P E.1 vwCl ([[(h0, .inr (9, [.int th, .ref k1, .int sd, .ref k2, .ref k3, .int ln, .int at0, .int pt, .int mi, .int nu, .long ha]))], [(k1, .inl (E.2 0, 1160, .inl (m_trA sv b n p (i - 1))))]] : List va_W).flatten H → va_D A ([[(h0, .inr (9, [.int th, .ref k1, .int sd, .ref k2, .ref k3, .int ln, .int at0, .int pt, .int mi, .int nu, .long ha]))], [(k1, .inl (E.2 0, 1160, .inl (m_trA sv b n p (i - 1))))]] : List va_W).flatten → va_S A s.heap H locs → ∀ (ls : Array Slot), lv_has ls 6 [(0, .ref h0), (1, .int (nI b)), (2, .int n), (3, .int p), (4, .int fr), (5, .int x)] → W Pg l En ({ frames := 4, cells := 0, slots := 0, locals := 87 } : Room) s Mi ([.ref h0, .int (nI b), .int n, .int p] : List Value).toArray below meth Cd H locs 0 0 (MQ below (zQ none (zB E ([[(h0, .inr (9, [.int th, .ref k1, .int sd, .ref k2, .ref k3, .int ln, .int at0, .int pt, .int mi, .int nu, .long ha]))], [(k1, .inl (E.2 0, 1160, .inl (m_trA sv b n p nn)))]] : List va_W).flatten A) A) ([.ref h0, .int (nI b), .int n, .int p] : List Value).toArray s 0 0 A) (F0 Mi 13 ls []) := by
    intro kz
    induction kz with
    | zero => intro i x fr h1 h2 h4 h3 hfr; exact absurd h1 (by omega)
    | succ kz ih =>
      intro i x fr h1 h2 h4 h3 hfr H locs hP hD hS ls hl
      refine lv_iload hx hb dX10_trips_13 (lv_at hl 5 rfl) ?_
      refine lv_iload_n hx hb dX10_trips_15 rfl (lv_at hl 2 rfl) ?_
      refine lv_icmp_gt (tgt := 42) hx hb dX10_trips_16 (by decide) (fun c_16 => ?_) (fun c_16 => ?_)
      · have hP : va_P E.1 vwCl ([[(h0, .inr (9, [.int th, .ref k1, .int sd, .ref k2, .ref k3, .int ln, .int at0, .int pt, .int mi, .int nu, .long ha]))], [(k1, .inl (E.2 0, 1160, .inl (m_trA sv b n p (i - 1))))]] : List va_W).flatten H := zf_sub hP [0, 1] rfl
        have hD : va_D A ([[(h0, .inr (9, [.int th, .ref k1, .int sd, .ref k2, .ref k3, .int ln, .int at0, .int pt, .int mi, .int nu, .long ha]))], [(k1, .inl (E.2 0, 1160, .inl (m_trA sv b n p (i - 1))))]] : List va_W).flatten := zf_subD hD [0, 1] (by decide) rfl
        exact W.vret hx hb hr (z_end hP hD hS (by have e9 : i - 1 = nn := (by have := nI_ltn (a := nn) (b := i) (by omega) (by omega) (by rw [← h3, ← hn]; exact c_16); omega); rw [e9])) hS.2.2 dX10_trips_42 hlocks
      · have hle : i ≤ nn := nI_nltn (a := nn) (b := i) (by omega) (by omega) (by rw [← h3, ← hn]; exact c_16)
        refine lv_aload_n hx hb dX10_trips_19 rfl (lv_at hl 0 rfl) ?_
        refine lv_iload_n hx hb dX10_trips_20 rfl (lv_at hl 1 rfl) ?_
        refine lv_iload hx hb dX10_trips_21 (lv_at hl 4 rfl) ?_
        refine lv_iload_n hx hb dX10_trips_23 rfl (lv_at hl 3 rfl) ?_
        refine lv_iload hx hb dX10_trips_24 (lv_at hl 4 rfl) ?_
        refine lv_isub hx hb dX10_trips_26 ?_
        refine lv_iload hx hb dX10_trips_27 (lv_at hl 5 rfl) ?_
        refine lv_imul hx hb dX10_trips_29 ?_
        refine lv_iload_n hx hb dX10_trips_30 rfl (lv_at hl 2 rfl) ?_
        refine lv_idiv hx hb dX10_trips_31 (fun h9 => nI_ne0 (n := nn) (by omega) (by omega) (by rw [← hn]; exact h9)) ?_
        refine lv_iadd hx hb dX10_trips_32 ?_
        refine z_topi (y := (m_way (sv (b + 0)) p (nI i) n)) (by rw [m_way, if_pos (by rw [hn]; exact nI_le (a := 1) (b := nn) (by omega) (by omega)), hfr, h3]) ?_
        have hPc : va_P E.1 vwCl ([[(h0, .inr (9, [.int th, .ref k1, .int sd, .ref k2, .ref k3, .int ln, .int at0, .int pt, .int mi, .int nu, .long ha]))], [(k1, .inl (E.2 0, 1160, .inl (m_trA sv b n p (i - 1))))]] : List va_W).flatten H := zf_sub hP [0, 1] rfl
        have hDc : va_D A ([[(h0, .inr (9, [.int th, .ref k1, .int sd, .ref k2, .ref k3, .int ln, .int at0, .int pt, .int mi, .int nu, .long ha]))], [(k1, .inl (E.2 0, 1160, .inl (m_trA sv b n p (i - 1))))]] : List va_W).flatten := zf_subD hD [0, 1] (by decide) rfl
        refine z_mut (Sc := [[(h0, .inr (9, [.int th, .ref k1, .int sd, .ref k2, .ref k3, .int ln, .int at0, .int pt, .int mi, .int nu, .long ha]))], [(k1, .inl (E.2 0, 1160, .inl (m_trA sv b n p (i - 1))))]]) (Sr := []) (W1 := [[(h0, .inr (9, [.int th, .ref k1, .int sd, .ref k2, .ref k3, .int ln, .int at0, .int pt, .int mi, .int nu, .long ha]))], [(k1, .inl (E.2 0, 1160, .inl (m_minA (m_trA sv b n p (i - 1)) b (m_n ((m_trA sv b n p (i - 1)) (b + 14))) (m_way (sv (b + 0)) p (nI i) n))))]]) (va_runV (As := [.int (nI b), .int (m_way (sv (b + 0)) p (nI i) n)]) (rest := []) ⟨hx, hb, hml, hown, hts⟩ (c_X10_minutePasses l E h0 k1 k2 k3 th sd ln at0 pt mi nu ha (nI b) b rfl (by omega) (m_trA sv b n p (i - 1)) (m_n ((m_trA sv b n p (i - 1)) (b + 14))) (m_tr14 hm hm6 _).1 (m_tr14 hm hm6 _).2 (m_way (sv (b + 0)) p (nI i) n) H.size) (cwV 2 hts gX10_trips_X10_minutePasses rfl rfl rfl (by decide +kernel) ⟨Nat.le_of_ble_eq_true rfl, Nat.le_of_ble_eq_true rfl⟩) ⟨zP.blind, va_recv hK.1 hPc (ci := 9) (q0 := 0) rfl rfl, z_pre hK hPc hDc⟩ rfl rfl hl.1 rfl (lv_room (Nat.le_of_ble_eq_true rfl)) dX10_trips_33 ⟨Nat.le_of_ble_eq_true rfl, Nat.le_of_ble_eq_true rfl⟩) hP hD hS hA [0, 1] [] rfl rfl (by decide) (by decide) (fun H locs hP hD hS => ?_)
        have hP : va_P E.1 vwCl ([[(h0, .inr (9, [.int th, .ref k1, .int sd, .ref k2, .ref k3, .int ln, .int at0, .int pt, .int mi, .int nu, .long ha]))], [(k1, .inl (E.2 0, 1160, .inl (m_minA (m_trA sv b n p (i - 1)) b (m_n ((m_trA sv b n p (i - 1)) (b + 14))) (m_way (sv (b + 0)) p (nI i) n))))]] : List va_W).flatten H := hP
        have hD : va_D A ([[(h0, .inr (9, [.int th, .ref k1, .int sd, .ref k2, .ref k3, .int ln, .int at0, .int pt, .int mi, .int nu, .long ha]))], [(k1, .inl (E.2 0, 1160, .inl (m_minA (m_trA sv b n p (i - 1)) b (m_n ((m_trA sv b n p (i - 1)) (b + 14))) (m_way (sv (b + 0)) p (nI i) n))))]] : List va_W).flatten := hD
        refine W.eq (g2 := F0 Mi 36 ls []) rfl ?_
        rw [← m_trA_pos h4] at hP hD
        obtain ⟨x_1, ex_1⟩ : ∃ y : Int32, y = x + 1 := ⟨_, rfl⟩
        refine lv_iinc (v := x_1) (lv' := [(5, .int x_1), (0, .ref h0), (1, .int (nI b)), (2, .int n), (3, .int p), (4, .int fr)]) hx hb dX10_trips_36 hl (k := 5) rfl (by rw [ex_1]; rfl) (by decide) rfl (fun ls hl => ?_)
        refine lv_goto (tgt := 13) hx hb dX10_trips_39 (by decide) ?_
        exact ih (i + 1) x_1 fr (by omega) (by omega) (by omega) (by rw [ex_1, h3]; exact nI_1 i) hfr _ _ (zf_sub hP [0, 1] rfl) (zf_subD hD [0, 1] (by decide) rfl) hS ls (lv_sub hl [1, 2, 3, 4, 5, 0] rfl)
  refine lv_aload_n hx hb dX10_trips_0 rfl (lv_at hl 0 rfl) ?_
  refine va_get (D := E.1) (ci := 9) (v := .ref k1) (C := RX10) (T := TX10) (N := 11) hx hb hts hi_X10 hown hK.1 hP 0 rfl rfl 1 (by decide) (hts (.fieldLink RX10 7 "AltimeterWatchModel" "s" "[I") (by decide +kernel)) (fun _ h9 => h9) rfl dX10_trips_1 ?_
  refine lv_iload_n hx hb dX10_trips_4 rfl (lv_at hl 1 rfl) ?_
  refine lv_iconst (v := 0) hx hb dX10_trips_5 (by decide) ?_
  refine lv_iadd hx hb dX10_trips_6 ?_
  refine z_iald (k := (b + 0)) hx hb hK.1 hP 1 rfl (z_addI rfl rfl) (by omega) (by decide) dX10_trips_7 ?_
  refine lv_topi (fun f_2 ef_2 => ?_)
  refine lv_istore (lv' := [(4, .int f_2), (0, .ref h0), (1, .int (nI b)), (2, .int n), (3, .int p)]) hx hb dX10_trips_8 hl (by decide) rfl (fun ls hl => ?_)
  refine lv_iconst (v := 1) hx hb dX10_trips_10 (by decide) ?_
  refine lv_istore (lv' := [(5, .int 1), (4, .int f_2), (0, .ref h0), (1, .int (nI b)), (2, .int n), (3, .int p)]) hx hb dX10_trips_11 hl (by decide) rfl (fun ls hl => ?_)
  exact LOOP_13 (nn + 1) 1 1 _ (by omega) (by omega) (by decide) rfl ef_2 _ _ (zf_sub hP [0, 1] rfl) (zf_subD hD [0, 1] (by decide) rfl) hS ls (lv_sub hl [2, 3, 4, 5, 1, 0] rfl)
