def m_sh (sv : Nat → Int32) (b : Nat) : Nat → Nat → Int32
  | 0 => sv
  | k + 1 => upd (m_sh sv b k) (b + 15 + (k + 1) - 1) (m_sh sv b k (b + 15 + (k + 1)))
theorem m_sh_pos {sv : Nat → Int32} {b i : Nat} (h : 1 ≤ i) : m_sh sv b i = upd (m_sh sv b (i - 1)) (b + 15 + i - 1) (m_sh sv b (i - 1) (b + 15 + i)) := by
  obtain ⟨j, rfl⟩ : ∃ j, i = j + 1 := ⟨i - 1, by omega⟩
  rfl
theorem m_sh_lo {sv : Nat → Int32} {b x : Nat} (hx : x < b + 15) : ∀ k, m_sh sv b k x = sv x
  | 0 => rfl
  | k + 1 => by
    rw [m_sh]
    unfold upd
    rw [if_neg (by omega)]
    exact m_sh_lo hx k
def m_lgC (m : Nat) : Nat := if m = 60 then 59 else m
def m_lgT (sv : Nat → Int32) (b m : Nat) : Nat → Int32 := if m = 60 then m_sh sv b 59 else sv
def m_lgA (sv : Nat → Int32) (b m : Nat) : Nat → Int32 := upd (upd (upd (m_lgT sv b m) (b + 14) (nI (m_lgC m))) (b + 15 + m_lgC m) (sv (b + 0))) (b + 14) (nI (m_lgC m + 1))
theorem m_lgA_14 (sv : Nat → Int32) (b m : Nat) : m_lgA sv b m (b + 14) = nI (m_lgC m + 1) := by
  unfold m_lgA upd
  rw [if_pos rfl]
theorem m_lgC_le {m : Nat} (h : m ≤ 60) : m_lgC m + 1 ≤ 60 := by
  unfold m_lgC
  split <;> omega
theorem m_clA_14 (sv : Nat → Int32) (b : Nat) : m_clA sv b (b + 14) = sv (b + 14) := by
  unfold m_clA m_clB
  split
  · simp [upd]
  · rfl

set_option maxHeartbeats 4000000 in
set_option maxRecDepth 100000 in
theorem c_X10_logs (l : Launch) (E : zE) (h0 k1 k2 k3 : Nat) (th sd ln at0 pt mi nu : Int32) (ha : Int64) (x1 : Int32) (b : Nat) (e1 : x1 = nI b) (hb0 : b ≤ 1044) (sv : Nat → Int32) (m : Nat) (hm : sv (b + 14) = nI m) (hm6 : m ≤ 60) : zM l yX10_logs wsX10_logs ({ frames := 0, cells := 0, slots := 0, locals := 0 }) E [.ref h0, .int x1] ([[(h0, .inr (9, [.int th, .ref k1, .int sd, .ref k2, .ref k3, .int ln, .int at0, .int pt, .int mi, .int nu, .long ha]))], [(k1, .inl (E.2 0, 1160, .inl sv))]] : List va_W).flatten none ([[(h0, .inr (9, [.int th, .ref k1, .int sd, .ref k2, .ref k3, .int ln, .int at0, .int pt, .int mi, .int nu, .long ha]))], [(k1, .inl (E.2 0, 1160, .inl (m_lgA sv b m)))]] : List va_W).flatten 0 0 := by
  subst e1
  refine z_start (cc := cX10_logs) (maxL := 3) (ret := none) (by decide) rfl (Nat.le_of_ble_eq_true rfl) ?_
  intro Pg En s Mi below meth Cd A hx hb hr hts hown hlocks hin hml hA H hH hP hK hD hS ls hl
  have hl : lv_has ls 3 [(0, .ref h0), (1, .int (nI b))] := hl
  have hi_X10 : ∀ w ∈ wsX100, w ∈ wsX10_logs := by decide +kernel
  have LOOP_2 : ∀ (kz : Nat) (i : Nat) (x : Int32), 60 < i + kz → i ≤ 60 → 1 ≤ i → x = nI i → i = 1 ∨ sv (b + 14) = 60 →  ∀ (H : Heap) (locs : List Loc), va_P E.1 vwCl ([[(h0, .inr (9, [.int th, .ref k1, .int sd, .ref k2, .ref k3, .int ln, .int at0, .int pt, .int mi, .int nu, .long ha]))], [(k1, .inl (E.2 0, 1160, .inl (m_sh sv b (i - 1))))]] : List va_W).flatten H → va_D A ([[(h0, .inr (9, [.int th, .ref k1, .int sd, .ref k2, .ref k3, .int ln, .int at0, .int pt, .int mi, .int nu, .long ha]))], [(k1, .inl (E.2 0, 1160, .inl (m_sh sv b (i - 1))))]] : List va_W).flatten → va_S A s.heap H locs → ∀ (ls : Array Slot), lv_has ls 3 [(0, .ref h0), (1, .int (nI b)), (2, .int x)] → W Pg l En ({ frames := 0, cells := 0, slots := 0, locals := 0 } : Room) s Mi ([.ref h0, .int (nI b)] : List Value).toArray below meth Cd H locs 0 0 (MQ below (zQ none (zB E ([[(h0, .inr (9, [.int th, .ref k1, .int sd, .ref k2, .ref k3, .int ln, .int at0, .int pt, .int mi, .int nu, .long ha]))], [(k1, .inl (E.2 0, 1160, .inl (m_lgA sv b m)))]] : List va_W).flatten A) A) ([.ref h0, .int (nI b)] : List Value).toArray s 0 0 A) (F0 Mi 2 ls []) := by
    intro kz
    induction kz with
    | zero => intro i x h1 h2 h4 h3 h7; exact absurd h1 (by omega)
    | succ kz ih =>
      intro i x h1 h2 h4 h3 h7 H locs hP hD hS ls hl
      refine lv_iload_n hx hb dX10_logs_2 rfl (lv_at hl 2 rfl) ?_
      refine lv_bipush (v := 60) hx hb dX10_logs_3 (by decide) ?_
      refine lv_icmp_ge (tgt := 52) hx hb dX10_logs_5 (by decide) (fun c_5 => ?_) (fun c_5 => ?_)
      · have e60 : i = 60 := by have := nI_len (a := 60) (b := i) (by decide) (by omega) (by rw [← h3]; exact c_5); omega
        have h60 : sv (b + 14) = 60 := h7.resolve_left (by omega)
        have hm60 : m = 60 := by { have e9 := m_n_nI (n := m) (by omega); rw [← hm, h60] at e9; exact e9.symm.trans (by decide) }
        rw [show i - 1 = 59 by omega] at hP hD
        refine lv_aload_n hx hb dX10_logs_52 rfl (lv_at hl 0 rfl) ?_
        refine va_get (D := E.1) (ci := 9) (v := .ref k1) (C := RX10) (T := TX10) (N := 11) hx hb hts hi_X10 hown hK.1 hP 0 rfl rfl 1 (by decide) (hts (.fieldLink RX10 7 "AltimeterWatchModel" "s" "[I") (by decide +kernel)) (fun _ h9 => h9) rfl dX10_logs_53 ?_
        refine lv_iload_n hx hb dX10_logs_56 rfl (lv_at hl 1 rfl) ?_
        refine lv_bipush (v := 14) hx hb dX10_logs_57 (by decide) ?_
        refine lv_iadd hx hb dX10_logs_59 ?_
        refine lv_dup2_11 hx hb dX10_logs_60 rfl rfl ?_
        refine z_iald (k := (b + 14)) hx hb hK.1 hP 1 rfl (z_addI rfl rfl) (by omega) (by decide) dX10_logs_61 ?_
        refine z_topi (y := (sv (b + 14))) (m_sh_lo (by omega) _) ?_
        refine lv_aload_n hx hb dX10_logs_62 rfl (lv_at hl 0 rfl) ?_
        refine va_get (D := E.1) (ci := 9) (v := .ref k1) (C := RX10) (T := TX10) (N := 11) hx hb hts hi_X10 hown hK.1 hP 0 rfl rfl 1 (by decide) (hts (.fieldLink RX10 7 "AltimeterWatchModel" "s" "[I") (by decide +kernel)) (fun _ h9 => h9) rfl dX10_logs_63 ?_
        refine lv_iload_n hx hb dX10_logs_66 rfl (lv_at hl 1 rfl) ?_
        refine lv_bipush (v := 14) hx hb dX10_logs_67 (by decide) ?_
        refine lv_iadd hx hb dX10_logs_69 ?_
        refine z_iald (k := (b + 14)) hx hb hK.1 hP 1 rfl (z_addI rfl rfl) (by omega) (by decide) dX10_logs_70 ?_
        refine z_topi (y := (sv (b + 14))) (m_sh_lo (by omega) _) ?_
        refine lv_bipush (v := 60) hx hb dX10_logs_71 (by decide) ?_
        refine lv_icmp_ne (tgt := 80) hx hb dX10_logs_73 (by decide) (fun h9 => absurd h9 ((fun h9 => h9 h60))) (fun _ => ?_)
        refine lv_iconst (v := 1) hx hb dX10_logs_76 (by decide) ?_
        refine lv_goto (tgt := 81) hx hb dX10_logs_77 (by decide) ?_
        refine lv_isub hx hb dX10_logs_81 ?_
        refine z_topi (y := (nI 59)) (by rw [h60]; rfl) ?_
        refine z_iast (k := (b + 14)) hx hb hK.1 hP hD hS 1 rfl (z_addI rfl rfl) (by omega) (by decide) dX10_logs_82 (fun H locs hP hD hS => ?_)
        have hP : va_P E.1 vwCl ([[(h0, .inr (9, [.int th, .ref k1, .int sd, .ref k2, .ref k3, .int ln, .int at0, .int pt, .int mi, .int nu, .long ha]))], [(k1, .inl (E.2 0, 1160, .inl (upd (m_sh sv b 59) (b + 14) (nI 59))))]] : List va_W).flatten H := hP
        have hD : va_D A ([[(h0, .inr (9, [.int th, .ref k1, .int sd, .ref k2, .ref k3, .int ln, .int at0, .int pt, .int mi, .int nu, .long ha]))], [(k1, .inl (E.2 0, 1160, .inl (upd (m_sh sv b 59) (b + 14) (nI 59))))]] : List va_W).flatten := hD
        refine lv_aload_n hx hb dX10_logs_83 rfl (lv_at hl 0 rfl) ?_
        refine va_get (D := E.1) (ci := 9) (v := .ref k1) (C := RX10) (T := TX10) (N := 11) hx hb hts hi_X10 hown hK.1 hP 0 rfl rfl 1 (by decide) (hts (.fieldLink RX10 7 "AltimeterWatchModel" "s" "[I") (by decide +kernel)) (fun _ h9 => h9) rfl dX10_logs_84 ?_
        refine lv_iload_n hx hb dX10_logs_87 rfl (lv_at hl 1 rfl) ?_
        refine lv_bipush (v := 15) hx hb dX10_logs_88 (by decide) ?_
        refine lv_iadd hx hb dX10_logs_90 ?_
        refine lv_aload_n hx hb dX10_logs_91 rfl (lv_at hl 0 rfl) ?_
        refine va_get (D := E.1) (ci := 9) (v := .ref k1) (C := RX10) (T := TX10) (N := 11) hx hb hts hi_X10 hown hK.1 hP 0 rfl rfl 1 (by decide) (hts (.fieldLink RX10 7 "AltimeterWatchModel" "s" "[I") (by decide +kernel)) (fun _ h9 => h9) rfl dX10_logs_92 ?_
        refine lv_iload_n hx hb dX10_logs_95 rfl (lv_at hl 1 rfl) ?_
        refine lv_bipush (v := 14) hx hb dX10_logs_96 (by decide) ?_
        refine lv_iadd hx hb dX10_logs_98 ?_
        refine z_iald (k := (b + 14)) hx hb hK.1 hP 1 rfl (z_addI rfl rfl) (by omega) (by decide) dX10_logs_99 ?_
        refine z_topi (y := (nI 59)) (by simp [upd]) ?_
        refine lv_iadd hx hb dX10_logs_100 ?_
        refine lv_aload_n hx hb dX10_logs_101 rfl (lv_at hl 0 rfl) ?_
        refine va_get (D := E.1) (ci := 9) (v := .ref k1) (C := RX10) (T := TX10) (N := 11) hx hb hts hi_X10 hown hK.1 hP 0 rfl rfl 1 (by decide) (hts (.fieldLink RX10 7 "AltimeterWatchModel" "s" "[I") (by decide +kernel)) (fun _ h9 => h9) rfl dX10_logs_102 ?_
        refine lv_iload_n hx hb dX10_logs_105 rfl (lv_at hl 1 rfl) ?_
        refine lv_iconst (v := 0) hx hb dX10_logs_106 (by decide) ?_
        refine lv_iadd hx hb dX10_logs_107 ?_
        refine z_iald (k := (b + 0)) hx hb hK.1 hP 1 rfl (z_addI rfl rfl) (by omega) (by decide) dX10_logs_108 ?_
        refine z_topi (y := ((m_sh sv b 59) (b + 0))) (by simp [upd]) ?_
        refine z_topi (y := (sv (b + 0))) (m_sh_lo (by omega) _) ?_
        refine z_iast (k := ((b + 15) + 59)) hx hb hK.1 hP hD hS 1 rfl (z_addI (z_addI rfl rfl) rfl) (by omega) (by decide) dX10_logs_109 (fun H locs hP hD hS => ?_)
        have hP : va_P E.1 vwCl ([[(h0, .inr (9, [.int th, .ref k1, .int sd, .ref k2, .ref k3, .int ln, .int at0, .int pt, .int mi, .int nu, .long ha]))], [(k1, .inl (E.2 0, 1160, .inl (upd (upd (m_sh sv b 59) (b + 14) (nI 59)) ((b + 15) + 59) (sv (b + 0)))))]] : List va_W).flatten H := hP
        have hD : va_D A ([[(h0, .inr (9, [.int th, .ref k1, .int sd, .ref k2, .ref k3, .int ln, .int at0, .int pt, .int mi, .int nu, .long ha]))], [(k1, .inl (E.2 0, 1160, .inl (upd (upd (m_sh sv b 59) (b + 14) (nI 59)) ((b + 15) + 59) (sv (b + 0)))))]] : List va_W).flatten := hD
        refine lv_aload_n hx hb dX10_logs_110 rfl (lv_at hl 0 rfl) ?_
        refine va_get (D := E.1) (ci := 9) (v := .ref k1) (C := RX10) (T := TX10) (N := 11) hx hb hts hi_X10 hown hK.1 hP 0 rfl rfl 1 (by decide) (hts (.fieldLink RX10 7 "AltimeterWatchModel" "s" "[I") (by decide +kernel)) (fun _ h9 => h9) rfl dX10_logs_111 ?_
        refine lv_iload_n hx hb dX10_logs_114 rfl (lv_at hl 1 rfl) ?_
        refine lv_bipush (v := 14) hx hb dX10_logs_115 (by decide) ?_
        refine lv_iadd hx hb dX10_logs_117 ?_
        refine lv_dup2_11 hx hb dX10_logs_118 rfl rfl ?_
        refine z_iald (k := (b + 14)) hx hb hK.1 hP 1 rfl (z_addI rfl rfl) (by omega) (by decide) dX10_logs_119 ?_
        refine z_topi (y := (nI 59)) (by unfold upd; rw [if_neg (by omega), if_pos rfl]) ?_
        refine lv_iconst (v := 1) hx hb dX10_logs_120 (by decide) ?_
        refine lv_iadd hx hb dX10_logs_121 ?_
        refine z_topi (y := (nI (59 + 1))) (nI_1 59) ?_
        refine z_iast (k := (b + 14)) hx hb hK.1 hP hD hS 1 rfl (z_addI rfl rfl) (by omega) (by decide) dX10_logs_122 (fun H locs hP hD hS => ?_)
        have hP : va_P E.1 vwCl ([[(h0, .inr (9, [.int th, .ref k1, .int sd, .ref k2, .ref k3, .int ln, .int at0, .int pt, .int mi, .int nu, .long ha]))], [(k1, .inl (E.2 0, 1160, .inl (upd (upd (upd (m_sh sv b 59) (b + 14) (nI 59)) ((b + 15) + 59) (sv (b + 0))) (b + 14) (nI (59 + 1)))))]] : List va_W).flatten H := hP
        have hD : va_D A ([[(h0, .inr (9, [.int th, .ref k1, .int sd, .ref k2, .ref k3, .int ln, .int at0, .int pt, .int mi, .int nu, .long ha]))], [(k1, .inl (E.2 0, 1160, .inl (upd (upd (upd (m_sh sv b 59) (b + 14) (nI 59)) ((b + 15) + 59) (sv (b + 0))) (b + 14) (nI (59 + 1)))))]] : List va_W).flatten := hD
        have hP : va_P E.1 vwCl ([[(h0, .inr (9, [.int th, .ref k1, .int sd, .ref k2, .ref k3, .int ln, .int at0, .int pt, .int mi, .int nu, .long ha]))], [(k1, .inl (E.2 0, 1160, .inl (upd (upd (upd (m_sh sv b 59) (b + 14) (nI 59)) ((b + 15) + 59) (sv (b + 0))) (b + 14) (nI (59 + 1)))))]] : List va_W).flatten H := zf_sub hP [0, 1] rfl
        have hD : va_D A ([[(h0, .inr (9, [.int th, .ref k1, .int sd, .ref k2, .ref k3, .int ln, .int at0, .int pt, .int mi, .int nu, .long ha]))], [(k1, .inl (E.2 0, 1160, .inl (upd (upd (upd (m_sh sv b 59) (b + 14) (nI 59)) ((b + 15) + 59) (sv (b + 0))) (b + 14) (nI (59 + 1)))))]] : List va_W).flatten := zf_subD hD [0, 1] (by decide) rfl
        exact W.vret hx hb hr (z_end hP hD hS (by rw [m_lgA, m_lgC, m_lgT, if_pos hm60, if_pos hm60])) hS.2.2 dX10_logs_123 hlocks
      · refine lv_aload_n hx hb dX10_logs_8 rfl (lv_at hl 0 rfl) ?_
        refine va_get (D := E.1) (ci := 9) (v := .ref k1) (C := RX10) (T := TX10) (N := 11) hx hb hts hi_X10 hown hK.1 hP 0 rfl rfl 1 (by decide) (hts (.fieldLink RX10 7 "AltimeterWatchModel" "s" "[I") (by decide +kernel)) (fun _ h9 => h9) rfl dX10_logs_9 ?_
        refine lv_iload_n hx hb dX10_logs_12 rfl (lv_at hl 1 rfl) ?_
        refine lv_bipush (v := 14) hx hb dX10_logs_13 (by decide) ?_
        refine lv_iadd hx hb dX10_logs_15 ?_
        refine z_iald (k := (b + 14)) hx hb hK.1 hP 1 rfl (z_addI rfl rfl) (by omega) (by decide) dX10_logs_16 ?_
        refine z_topi (y := (sv (b + 14))) (m_sh_lo (by omega) _) ?_
        refine lv_bipush (v := 60) hx hb dX10_logs_17 (by decide) ?_
        refine lv_icmp_ne (tgt := 52) hx hb dX10_logs_19 (by decide) (fun c_19 => ?_) (fun c_19 => ?_)
        · have hm60 : ¬ m = 60 := fun h9 => c_19 (by rw [hm, h9]; rfl)
          rw [show i - 1 = 0 by (have := h7.resolve_right c_19; omega)] at hP hD
          have hP : va_P E.1 vwCl ([[(h0, .inr (9, [.int th, .ref k1, .int sd, .ref k2, .ref k3, .int ln, .int at0, .int pt, .int mi, .int nu, .long ha]))], [(k1, .inl (E.2 0, 1160, .inl sv))]] : List va_W).flatten H := hP
          have hD : va_D A ([[(h0, .inr (9, [.int th, .ref k1, .int sd, .ref k2, .ref k3, .int ln, .int at0, .int pt, .int mi, .int nu, .long ha]))], [(k1, .inl (E.2 0, 1160, .inl sv))]] : List va_W).flatten := hD
          refine lv_aload_n hx hb dX10_logs_52 rfl (lv_at hl 0 rfl) ?_
          refine va_get (D := E.1) (ci := 9) (v := .ref k1) (C := RX10) (T := TX10) (N := 11) hx hb hts hi_X10 hown hK.1 hP 0 rfl rfl 1 (by decide) (hts (.fieldLink RX10 7 "AltimeterWatchModel" "s" "[I") (by decide +kernel)) (fun _ h9 => h9) rfl dX10_logs_53 ?_
          refine lv_iload_n hx hb dX10_logs_56 rfl (lv_at hl 1 rfl) ?_
          refine lv_bipush (v := 14) hx hb dX10_logs_57 (by decide) ?_
          refine lv_iadd hx hb dX10_logs_59 ?_
          refine lv_dup2_11 hx hb dX10_logs_60 rfl rfl ?_
          refine z_iald (k := (b + 14)) hx hb hK.1 hP 1 rfl (z_addI rfl rfl) (by omega) (by decide) dX10_logs_61 ?_
          refine lv_aload_n hx hb dX10_logs_62 rfl (lv_at hl 0 rfl) ?_
          refine va_get (D := E.1) (ci := 9) (v := .ref k1) (C := RX10) (T := TX10) (N := 11) hx hb hts hi_X10 hown hK.1 hP 0 rfl rfl 1 (by decide) (hts (.fieldLink RX10 7 "AltimeterWatchModel" "s" "[I") (by decide +kernel)) (fun _ h9 => h9) rfl dX10_logs_63 ?_
          refine lv_iload_n hx hb dX10_logs_66 rfl (lv_at hl 1 rfl) ?_
          refine lv_bipush (v := 14) hx hb dX10_logs_67 (by decide) ?_
          refine lv_iadd hx hb dX10_logs_69 ?_
          refine z_iald (k := (b + 14)) hx hb hK.1 hP 1 rfl (z_addI rfl rfl) (by omega) (by decide) dX10_logs_70 ?_
          refine lv_bipush (v := 60) hx hb dX10_logs_71 (by decide) ?_
          refine lv_icmp_ne (tgt := 80) hx hb dX10_logs_73 (by decide) (fun _ => ?_) (fun h9 => absurd h9 (c_19))
          refine lv_iconst (v := 0) hx hb dX10_logs_80 (by decide) ?_
          refine lv_isub hx hb dX10_logs_81 ?_
          refine z_topi (y := (nI m)) (by rw [hm]; simp) ?_
          refine z_iast (k := (b + 14)) hx hb hK.1 hP hD hS 1 rfl (z_addI rfl rfl) (by omega) (by decide) dX10_logs_82 (fun H locs hP hD hS => ?_)
          have hP : va_P E.1 vwCl ([[(h0, .inr (9, [.int th, .ref k1, .int sd, .ref k2, .ref k3, .int ln, .int at0, .int pt, .int mi, .int nu, .long ha]))], [(k1, .inl (E.2 0, 1160, .inl (upd sv (b + 14) (nI m))))]] : List va_W).flatten H := hP
          have hD : va_D A ([[(h0, .inr (9, [.int th, .ref k1, .int sd, .ref k2, .ref k3, .int ln, .int at0, .int pt, .int mi, .int nu, .long ha]))], [(k1, .inl (E.2 0, 1160, .inl (upd sv (b + 14) (nI m))))]] : List va_W).flatten := hD
          refine lv_aload_n hx hb dX10_logs_83 rfl (lv_at hl 0 rfl) ?_
          refine va_get (D := E.1) (ci := 9) (v := .ref k1) (C := RX10) (T := TX10) (N := 11) hx hb hts hi_X10 hown hK.1 hP 0 rfl rfl 1 (by decide) (hts (.fieldLink RX10 7 "AltimeterWatchModel" "s" "[I") (by decide +kernel)) (fun _ h9 => h9) rfl dX10_logs_84 ?_
          refine lv_iload_n hx hb dX10_logs_87 rfl (lv_at hl 1 rfl) ?_
          refine lv_bipush (v := 15) hx hb dX10_logs_88 (by decide) ?_
          refine lv_iadd hx hb dX10_logs_90 ?_
          refine lv_aload_n hx hb dX10_logs_91 rfl (lv_at hl 0 rfl) ?_
          refine va_get (D := E.1) (ci := 9) (v := .ref k1) (C := RX10) (T := TX10) (N := 11) hx hb hts hi_X10 hown hK.1 hP 0 rfl rfl 1 (by decide) (hts (.fieldLink RX10 7 "AltimeterWatchModel" "s" "[I") (by decide +kernel)) (fun _ h9 => h9) rfl dX10_logs_92 ?_
          refine lv_iload_n hx hb dX10_logs_95 rfl (lv_at hl 1 rfl) ?_
          refine lv_bipush (v := 14) hx hb dX10_logs_96 (by decide) ?_
          refine lv_iadd hx hb dX10_logs_98 ?_
          refine z_iald (k := (b + 14)) hx hb hK.1 hP 1 rfl (z_addI rfl rfl) (by omega) (by decide) dX10_logs_99 ?_
          refine z_topi (y := (nI m)) (by simp [upd]) ?_
          refine lv_iadd hx hb dX10_logs_100 ?_
          refine lv_aload_n hx hb dX10_logs_101 rfl (lv_at hl 0 rfl) ?_
          refine va_get (D := E.1) (ci := 9) (v := .ref k1) (C := RX10) (T := TX10) (N := 11) hx hb hts hi_X10 hown hK.1 hP 0 rfl rfl 1 (by decide) (hts (.fieldLink RX10 7 "AltimeterWatchModel" "s" "[I") (by decide +kernel)) (fun _ h9 => h9) rfl dX10_logs_102 ?_
          refine lv_iload_n hx hb dX10_logs_105 rfl (lv_at hl 1 rfl) ?_
          refine lv_iconst (v := 0) hx hb dX10_logs_106 (by decide) ?_
          refine lv_iadd hx hb dX10_logs_107 ?_
          refine z_iald (k := (b + 0)) hx hb hK.1 hP 1 rfl (z_addI rfl rfl) (by omega) (by decide) dX10_logs_108 ?_
          refine z_topi (y := (sv (b + 0))) (by simp [upd]) ?_
          refine z_iast (k := ((b + 15) + m)) hx hb hK.1 hP hD hS 1 rfl (z_addI (z_addI rfl rfl) rfl) (by omega) (by decide) dX10_logs_109 (fun H locs hP hD hS => ?_)
          have hP : va_P E.1 vwCl ([[(h0, .inr (9, [.int th, .ref k1, .int sd, .ref k2, .ref k3, .int ln, .int at0, .int pt, .int mi, .int nu, .long ha]))], [(k1, .inl (E.2 0, 1160, .inl (upd (upd sv (b + 14) (nI m)) ((b + 15) + m) (sv (b + 0)))))]] : List va_W).flatten H := hP
          have hD : va_D A ([[(h0, .inr (9, [.int th, .ref k1, .int sd, .ref k2, .ref k3, .int ln, .int at0, .int pt, .int mi, .int nu, .long ha]))], [(k1, .inl (E.2 0, 1160, .inl (upd (upd sv (b + 14) (nI m)) ((b + 15) + m) (sv (b + 0)))))]] : List va_W).flatten := hD
          refine lv_aload_n hx hb dX10_logs_110 rfl (lv_at hl 0 rfl) ?_
          refine va_get (D := E.1) (ci := 9) (v := .ref k1) (C := RX10) (T := TX10) (N := 11) hx hb hts hi_X10 hown hK.1 hP 0 rfl rfl 1 (by decide) (hts (.fieldLink RX10 7 "AltimeterWatchModel" "s" "[I") (by decide +kernel)) (fun _ h9 => h9) rfl dX10_logs_111 ?_
          refine lv_iload_n hx hb dX10_logs_114 rfl (lv_at hl 1 rfl) ?_
          refine lv_bipush (v := 14) hx hb dX10_logs_115 (by decide) ?_
          refine lv_iadd hx hb dX10_logs_117 ?_
          refine lv_dup2_11 hx hb dX10_logs_118 rfl rfl ?_
          refine z_iald (k := (b + 14)) hx hb hK.1 hP 1 rfl (z_addI rfl rfl) (by omega) (by decide) dX10_logs_119 ?_
          refine z_topi (y := (nI m)) (by unfold upd; rw [if_neg (by omega), if_pos rfl]) ?_
          refine lv_iconst (v := 1) hx hb dX10_logs_120 (by decide) ?_
          refine lv_iadd hx hb dX10_logs_121 ?_
          refine z_topi (y := (nI (m + 1))) (nI_1 m) ?_
          refine z_iast (k := (b + 14)) hx hb hK.1 hP hD hS 1 rfl (z_addI rfl rfl) (by omega) (by decide) dX10_logs_122 (fun H locs hP hD hS => ?_)
          have hP : va_P E.1 vwCl ([[(h0, .inr (9, [.int th, .ref k1, .int sd, .ref k2, .ref k3, .int ln, .int at0, .int pt, .int mi, .int nu, .long ha]))], [(k1, .inl (E.2 0, 1160, .inl (upd (upd (upd sv (b + 14) (nI m)) ((b + 15) + m) (sv (b + 0))) (b + 14) (nI (m + 1)))))]] : List va_W).flatten H := hP
          have hD : va_D A ([[(h0, .inr (9, [.int th, .ref k1, .int sd, .ref k2, .ref k3, .int ln, .int at0, .int pt, .int mi, .int nu, .long ha]))], [(k1, .inl (E.2 0, 1160, .inl (upd (upd (upd sv (b + 14) (nI m)) ((b + 15) + m) (sv (b + 0))) (b + 14) (nI (m + 1)))))]] : List va_W).flatten := hD
          have hP : va_P E.1 vwCl ([[(h0, .inr (9, [.int th, .ref k1, .int sd, .ref k2, .ref k3, .int ln, .int at0, .int pt, .int mi, .int nu, .long ha]))], [(k1, .inl (E.2 0, 1160, .inl (upd (upd (upd sv (b + 14) (nI m)) ((b + 15) + m) (sv (b + 0))) (b + 14) (nI (m + 1)))))]] : List va_W).flatten H := zf_sub hP [0, 1] rfl
          have hD : va_D A ([[(h0, .inr (9, [.int th, .ref k1, .int sd, .ref k2, .ref k3, .int ln, .int at0, .int pt, .int mi, .int nu, .long ha]))], [(k1, .inl (E.2 0, 1160, .inl (upd (upd (upd sv (b + 14) (nI m)) ((b + 15) + m) (sv (b + 0))) (b + 14) (nI (m + 1)))))]] : List va_W).flatten := zf_subD hD [0, 1] (by decide) rfl
          exact W.vret hx hb hr (z_end hP hD hS (by rw [m_lgA, m_lgC, m_lgT, if_neg hm60, if_neg hm60])) hS.2.2 dX10_logs_123 hlocks
        · refine lv_aload_n hx hb dX10_logs_22 rfl (lv_at hl 0 rfl) ?_
          refine va_get (D := E.1) (ci := 9) (v := .ref k1) (C := RX10) (T := TX10) (N := 11) hx hb hts hi_X10 hown hK.1 hP 0 rfl rfl 1 (by decide) (hts (.fieldLink RX10 7 "AltimeterWatchModel" "s" "[I") (by decide +kernel)) (fun _ h9 => h9) rfl dX10_logs_23 ?_
          refine lv_iload_n hx hb dX10_logs_26 rfl (lv_at hl 1 rfl) ?_
          refine lv_bipush (v := 15) hx hb dX10_logs_27 (by decide) ?_
          refine lv_iadd hx hb dX10_logs_29 ?_
          refine lv_iload_n hx hb dX10_logs_30 rfl (lv_at hl 2 rfl) ?_
          refine lv_iadd hx hb dX10_logs_31 ?_
          refine lv_iconst (v := 1) hx hb dX10_logs_32 (by decide) ?_
          refine lv_isub hx hb dX10_logs_33 ?_
          refine lv_aload_n hx hb dX10_logs_34 rfl (lv_at hl 0 rfl) ?_
          refine va_get (D := E.1) (ci := 9) (v := .ref k1) (C := RX10) (T := TX10) (N := 11) hx hb hts hi_X10 hown hK.1 hP 0 rfl rfl 1 (by decide) (hts (.fieldLink RX10 7 "AltimeterWatchModel" "s" "[I") (by decide +kernel)) (fun _ h9 => h9) rfl dX10_logs_35 ?_
          refine lv_iload_n hx hb dX10_logs_38 rfl (lv_at hl 1 rfl) ?_
          refine lv_bipush (v := 15) hx hb dX10_logs_39 (by decide) ?_
          refine lv_iadd hx hb dX10_logs_41 ?_
          refine lv_iload_n hx hb dX10_logs_42 rfl (lv_at hl 2 rfl) ?_
          refine lv_iadd hx hb dX10_logs_43 ?_
          refine z_iald (k := ((b + 15) + i)) hx hb hK.1 hP 1 rfl (z_addI (z_addI rfl rfl) h3) (by omega) (by decide) dX10_logs_44 ?_
          refine z_iast (k := (((b + 15) + i) - 1)) hx hb hK.1 hP hD hS 1 rfl (z_subI (z_addI (z_addI rfl rfl) h3) rfl (by omega)) (by omega) (by decide) dX10_logs_45 (fun H locs hP hD hS => ?_)
          have hP : va_P E.1 vwCl ([[(h0, .inr (9, [.int th, .ref k1, .int sd, .ref k2, .ref k3, .int ln, .int at0, .int pt, .int mi, .int nu, .long ha]))], [(k1, .inl (E.2 0, 1160, .inl (upd (m_sh sv b (i - 1)) (((b + 15) + i) - 1) ((m_sh sv b (i - 1)) ((b + 15) + i)))))]] : List va_W).flatten H := hP
          have hD : va_D A ([[(h0, .inr (9, [.int th, .ref k1, .int sd, .ref k2, .ref k3, .int ln, .int at0, .int pt, .int mi, .int nu, .long ha]))], [(k1, .inl (E.2 0, 1160, .inl (upd (m_sh sv b (i - 1)) (((b + 15) + i) - 1) ((m_sh sv b (i - 1)) ((b + 15) + i)))))]] : List va_W).flatten := hD
          rw [← m_sh_pos h4] at hP hD
          obtain ⟨x_1, ex_1⟩ : ∃ y : Int32, y = x + 1 := ⟨_, rfl⟩
          refine lv_iinc (v := x_1) (lv' := [(2, .int x_1), (0, .ref h0), (1, .int (nI b))]) hx hb dX10_logs_46 hl (k := 2) rfl (by rw [ex_1]; rfl) (by decide) rfl (fun ls hl => ?_)
          refine lv_goto (tgt := 2) hx hb dX10_logs_49 (by decide) ?_
          exact ih (i + 1) x_1 (by omega) (by have := nI_nlen (a := 60) (b := i) (by decide) (by omega) (by rw [← h3]; exact c_5); omega) (by omega) (by rw [ex_1, h3]; exact nI_1 i) (Or.inr c_19) _ _ (zf_sub hP [0, 1] rfl) (zf_subD hD [0, 1] (by decide) rfl) hS ls (lv_sub hl [1, 2, 0] rfl)
  refine lv_iconst (v := 1) hx hb dX10_logs_0 (by decide) ?_
  refine lv_istore_n (lv' := [(2, .int 1), (0, .ref h0), (1, .int (nI b))]) hx hb dX10_logs_1 rfl hl (by decide) rfl (fun ls hl => ?_)
  exact LOOP_2 60 1 1 (by decide) (by decide) (by decide) rfl (Or.inl rfl) _ _ (zf_sub hP [0, 1] rfl) (zf_subD hD [0, 1] (by decide) rfl) hS ls (lv_sub hl [1, 2, 0] rfl)
