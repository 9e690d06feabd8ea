theorem z_head {i L : Nat} (h : 3 * i ≤ L) (hL : L ≤ 1536) (c : ¬ Int32.ofNat L - 3 < nI (3 * i)) : 3 * i + 3 ≤ L := by
  rcases Nat.lt_or_ge L 3 with q | q
  · exact absurd (by
      have e : i = 0 := by omega
      subst e
      rcases (show L = 0 ∨ L = 1 ∨ L = 2 by omega) with rfl | rfl | rfl <;> decide +kernel) c
  · have e : Int32.ofNat L - 3 = nI (L - 3) := by
      have : nI L = nI (L - 3) + 3 := by rw [show (3 : Int32) = nI 3 from rfl, nI_add, Nat.sub_add_cancel q]
      show nI L - 3 = _
      rw [this, Int32.add_sub_cancel]
    rw [e] at c
    have := nI_nltn (by omega) (by omega) c
    omega
set_option maxHeartbeats 4000000 in
set_option maxRecDepth 100000 in
theorem law_loop {Pg : Program} {l : Launch} {En : Env} {s : State} {Mi : MethodId} {below : List Frame} {meth : Method} {Cd : Code} {b L : Nat} {xs : Nat → Int32} {E : zE} (sa : Nat → Nat) {xa na ma mb : Nat → Nat} {ad : Nat → Nat → Nat} {h0 k1 k2 k3 ou : Nat} (hl0 : l.stackTraces = false) (hr : meth.sig.returnType = ret) (hlocks : meth.locks = false) (C : z_LC Pg s Mi Cd b L xs E sa (fun q => s.heap.size ≤ q)) :
    ∀ (n i : Nat), L < 3 * i + n → 3 * i ≤ L → z_LK Pg l En s Mi below meth Cd b E (fun q => s.heap.size ≤ q) xa na ma mb ad h0 k1 k2 k3 ou i := by
  intro n
  induction n with
  | zero =>
    intro i h1 h2
    exact absurd h1 (by omega)
  | succ n ih =>
    intro i h1 h3 tx ln nx ct f0 f1 g ga gb v th sd at0 pt mi nu ha sv fl d f H locs ls hR hP hD hS hl
    obtain ⟨hx, hb, hown, hml, hts, hX, hbl, hK, hT, hN, hZ, hL, hA, hbA⟩ := id C
    refine lv_iload hx hb dL_law_23 (lv_at hl 4 rfl) ?_
    refine lv_aload_n hx hb dL_law_25 rfl (lv_at hl 0 rfl) ?_
    refine va_slen hx hb hX hbl hbA hS dL_law_26 ?_
    refine lv_iconst (v := 3) hx hb dL_law_27 (by decide) ?_
    refine lv_isub hx hb dL_law_28 ?_
    refine lv_icmp_gt (tgt := 1593) hx hb dL_law_29 (by decide) (fun _ => ?_) (fun c9 => ?_)
    · refine lv_iconst (v := 1) hx hb dL_law_1593 (by decide) ?_
      refine va_forget (fun q hq => hS.2.2 q hq) ?_
      refine W.widen (k := 601024) (n := 7293034) (by omega) (by omega) ?_
      refine W.base ?_
      exact lw_ret (d0 := s.drawn) (Drawn.sameBut.refl s.drawn lw_cs) hx hb hr hlocks dL_law_1594
    · have h4 := z_head h3 hL c9
      have h2 : 3 * i + 2 < L := by omega
      have K := ih (i + 1) (by omega) (by omega)
      refine lv_aload_n hx hb dL_law_32 rfl (lv_at hl 0 rfl) ?_
      refine lv_iload hx hb dL_law_33 (lv_at hl 4 rfl) ?_
      refine z_sld (k := 3 * i) hx hb hX hbl hbA hS rfl (by omega) hL rfl dL_law_35 ?_
      refine lv_bipush (v := 63) hx hb dL_law_36 (by decide) ?_
      refine lv_iand hx hb dL_law_38 ?_
      obtain ⟨j, hj, ej⟩ := pk_andE (xs (3 * i)) (m := 63) 6 (by decide)
      refine z_topi ej ?_
      clear ej ih
      have hdg : True := trivial
      match j, hj, hdg with
      | 0, _, hdg => exact lv_tableIn (off := 173) (tgt := 212) hx hb dL_law_39 (by decide) (by decide) rfl (by decide) (law_0_travel sa hl0 C h2 K rfl rfl hR hP hD hS hl)
      | 1, _, hdg => exact lv_tableIn (off := 241) (tgt := 280) hx hb dL_law_39 (by decide) (by decide) rfl (by decide) (law_1_setStation sa hl0 C h2 K rfl rfl hR hP hD hS hl)
      | 2, _, hdg => exact lv_tableIn (off := 282) (tgt := 321) hx hb dL_law_39 (by decide) (by decide) rfl (by decide) (law_2_isStation sa hl0 C h2 K rfl rfl hR hP hD hS hl)
      | 3, _, hdg => exact lv_tableIn (off := 295) (tgt := 334) hx hb dL_law_39 (by decide) (by decide) rfl (by decide) (law_3_pressure sa hl0 C h2 K rfl rfl hR hP hD hS hl)
      | 4, _, hdg => exact lv_tableIn (off := 308) (tgt := 347) hx hb dL_law_39 (by decide) (by decide) rfl (by decide) (law_4_altitude sa hl0 C h2 K rfl rfl hR hP hD hS hl)
      | 5, _, hdg => exact lv_tableIn (off := 321) (tgt := 360) hx hb dL_law_39 (by decide) (by decide) rfl (by decide) (law_5_minutes sa hl0 C h2 K rfl rfl hR hP hD hS hl)
      | 6, _, hdg => exact lv_tableIn (off := 334) (tgt := 373) hx hb dL_law_39 (by decide) (by decide) rfl (by decide) (law_6_standard sa hl0 C h2 K rfl rfl hR hP hD hS hl)
      | 7, _, hdg => exact lv_tableIn (off := 390) (tgt := 429) hx hb dL_law_39 (by decide) (by decide) rfl (by decide) (law_7_setSea sa hl0 C h2 K rfl rfl hR hP hD hS hl)
      | 8, _, hdg => exact lv_tableIn (off := 446) (tgt := 485) hx hb dL_law_39 (by decide) (by decide) rfl (by decide) (law_8_calibrate sa hl0 C h2 K rfl rfl hR hP hD hS hl)
      | 9, _, hdg => exact lv_tableIn (off := 502) (tgt := 541) hx hb dL_law_39 (by decide) (by decide) rfl (by decide) (law_9_sea sa hl0 C h2 K rfl rfl hR hP hD hS hl)
      | 10, _, hdg => exact lv_tableIn (off := 515) (tgt := 554) hx hb dL_law_39 (by decide) (by decide) rfl (by decide) (law_10_drift sa hl0 C h2 K rfl rfl hR hP hD hS hl)
      | 11, _, hdg => exact lv_tableIn (off := 528) (tgt := 567) hx hb dL_law_39 (by decide) (by decide) rfl (by decide) (law_11_calibrations sa hl0 C h2 K rfl rfl hR hP hD hS hl)
      | 12, _, hdg => exact lv_tableIn (off := 541) (tgt := 580) hx hb dL_law_39 (by decide) (by decide) rfl (by decide) (law_12_setThreshold sa hl0 C h2 K rfl rfl hR hP hD hS hl)
      | 13, _, hdg => exact lv_tableIn (off := 597) (tgt := 636) hx hb dL_law_39 (by decide) (by decide) rfl (by decide) (law_13_ascent sa hl0 C h2 K rfl rfl hR hP hD hS hl)
      | 14, _, hdg => exact lv_tableIn (off := 610) (tgt := 649) hx hb dL_law_39 (by decide) (by decide) rfl (by decide) (law_14_descent sa hl0 C h2 K rfl rfl hR hP hD hS hl)
      | 15, _, hdg => exact lv_tableIn (off := 623) (tgt := 662) hx hb dL_law_39 (by decide) (by decide) rfl (by decide) (law_15_base sa hl0 C h2 K rfl rfl hR hP hD hS hl)
      | 16, _, hdg => exact lv_tableIn (off := 636) (tgt := 675) hx hb dL_law_39 (by decide) (by decide) rfl (by decide) (law_16_setMark sa hl0 C h2 K rfl rfl hR hP hD hS hl)
      | 17, _, hdg => exact lv_tableIn (off := 649) (tgt := 688) hx hb dL_law_39 (by decide) (by decide) rfl (by decide) (law_17_marks sa hl0 C h2 K rfl rfl hR hP hD hS hl)
      | 18, _, hdg => exact lv_tableIn (off := 662) (tgt := 701) hx hb dL_law_39 (by decide) (by decide) rfl (by decide) (law_18_markTime sa hl0 C h2 K rfl rfl hR hP hD hS hl)
      | 19, _, hdg => exact lv_tableIn (off := 718) (tgt := 757) hx hb dL_law_39 (by decide) (by decide) rfl (by decide) (law_19_markAltitude sa hl0 C h2 K rfl rfl hR hP hD hS hl)
      | 20, _, hdg => exact lv_tableIn (off := 774) (tgt := 813) hx hb dL_law_39 (by decide) (by decide) rfl (by decide) (law_20_climbed sa hl0 C h2 K rfl rfl hR hP hD hS hl)
      | 21, _, hdg => exact lv_tableIn (off := 842) (tgt := 881) hx hb dL_law_39 (by decide) (by decide) rfl (by decide) (law_21_setAlarm sa hl0 C h2 K rfl rfl hR hP hD hS hl)
      | 22, _, hdg => exact lv_tableIn (off := 898) (tgt := 937) hx hb dL_law_39 (by decide) (by decide) rfl (by decide) (law_22_logged sa hl0 C h2 K rfl rfl hR hP hD hS hl)
      | 23, _, hdg => exact lv_tableIn (off := 911) (tgt := 950) hx hb dL_law_39 (by decide) (by decide) rfl (by decide) (law_23_fall sa hl0 C h2 K rfl rfl hR hP hD hS hl)
      | 24, _, hdg => exact lv_tableIn (off := 924) (tgt := 963) hx hb dL_law_39 (by decide) (by decide) rfl (by decide) (law_24_isAlarm sa hl0 C h2 K rfl rfl hR hP hD hS hl)
      | 25, _, hdg => exact lv_tableIn (off := 937) (tgt := 976) hx hb dL_law_39 (by decide) (by decide) rfl (by decide) (law_25_alarms sa hl0 C h2 K rfl rfl hR hP hD hS hl)
      | 26, _, hdg => exact lv_tableIn (off := 950) (tgt := 989) hx hb dL_law_39 (by decide) (by decide) rfl (by decide) (law_26_altitudeAfter sa hl0 C h2 K rfl rfl hR hP hD hS hl)
      | 27, _, hdg => exact lv_tableIn (off := 1018) (tgt := 1057) hx hb dL_law_39 (by decide) (by decide) rfl (by decide) (law_27_ascentIn sa hl0 C h2 K rfl rfl hR hP hD hS hl)
      | 28, _, hdg => exact lv_tableIn (off := 1086) (tgt := 1125) hx hb dL_law_39 (by decide) (by decide) rfl (by decide) (law_28_pressureAt sa hl0 C h2 K rfl rfl hR hP hD hS hl)
      | 29, _, hdg => exact lv_tableIn (off := 1142) (tgt := 1181) hx hb dL_law_39 (by decide) (by decide) rfl (by decide) (law_29_minutesToAlarm sa hl0 C h2 K rfl rfl hR hP hD hS hl)
      | 30, _, hdg => exact lv_tableIn (off := 1198) (tgt := 1237) hx hb dL_law_39 (by decide) (by decide) rfl (by decide) (law_30_climbShare sa hl0 C h2 K rfl rfl hR hP hD hS hl)
      | 31, _, hdg => exact lv_tableIn (off := 1239) (tgt := 1278) hx hb dL_law_39 (by decide) (by decide) rfl (by decide) (law_31_append sa hl0 C h2 K rfl rfl hR hP hD hS hl)
      | 32, _, hdg => exact lv_tableIn (off := 1295) (tgt := 1334) hx hb dL_law_39 (by decide) (by decide) rfl (by decide) (law_32_clearText sa hl0 C h2 K rfl rfl hR hP hD hS hl)
      | 33, _, hdg => exact lv_tableIn (off := 1308) (tgt := 1347) hx hb dL_law_39 (by decide) (by decide) rfl (by decide) (law_33_firstError sa hl0 C h2 K rfl rfl hR hP hD hS hl)
      | 34, _, hdg => exact lv_tableIn (off := 1321) (tgt := 1360) hx hb dL_law_39 (by decide) (by decide) rfl (by decide) (law_34_run sa hl0 C h2 K rfl rfl hR hP hD hS hl)
      | 35, _, hdg => exact lv_tableIn (off := 1365) (tgt := 1404) hx hb dL_law_39 (by decide) (by decide) rfl (by decide) (law_35_undo sa hl0 C h2 K rfl rfl hR hP hD hS hl)
      | 36, _, hdg => exact lv_tableIn (off := 1409) (tgt := 1448) hx hb dL_law_39 (by decide) (by decide) rfl (by decide) (law_36_savedStates sa hl0 C h2 K rfl rfl hR hP hD hS hl)
      | 37, _, hdg => exact lv_tableIn (off := 1422) (tgt := 1461) hx hb dL_law_39 (by decide) (by decide) rfl (by decide) (law_37_store sa hl0 C h2 K rfl rfl hR hP hD hS hl)
      | 38, _, hdg => exact lv_tableIn (off := 1478) (tgt := 1517) hx hb dL_law_39 (by decide) (by decide) rfl (by decide) (law_38_recall sa hl0 C h2 K rfl rfl hR hP hD hS hl)
      | 39, _, hdg => exact lv_tableIn (off := 1534) (tgt := 1573) hx hb dL_law_39 (by decide) (by decide) rfl (by decide) (law_39_digest sa hl0 C h2 K rfl rfl hR hP hD hS hl)
      | j + 40, hj, hdg => exact lv_tableOut (tgt := 1587) hx hb dL_law_39 (Or.inr (by rw [nI_toInt (by omega)]; omega)) (by decide) (law_next C K hR hP hD hS (by omega) (by omega) hl)

