theorem m_std_lt {p q : Nat} (h : p < q) (hq : q ≤ 11000) : m_std (nI q) < m_std (nI p) := by
  rw [fa_lt, m_std_toInt hq, m_std_toInt (by omega)]; exact m_stdN_anti h hq
theorem m_std_le {p q : Nat} (h : p ≤ q) (hq : q ≤ 11000) : m_std (nI q) ≤ m_std (nI p) := by
  rcases Nat.lt_or_ge p q with a | a
  · exact Int32.le_of_lt (m_std_lt a hq)
  · have : p = q := by omega
    subst this; exact Int32.le_refl _
theorem k_13 {k : Nat} {x : Int32} (h : x = nI k) (c : 13 ≤ x) (h2 : k ≤ 13) : k = 13 := by
  subst h
  rw [fa_le, nI_toInt (by omega)] at c
  have : (13 : Int32).toInt = 13 := rfl
  omega
theorem k_lt {k : Nat} {x : Int32} (h : x = nI k) (c : ¬ 13 ≤ x) (h2 : k ≤ 13) : k < 13 := by
  subst h
  rw [fa_le, nI_toInt (by omega)] at c
  have : (13 : Int32).toInt = 13 := rfl
  omega
theorem nI_ltn {a b : Nat} (ha : a < 2 ^ 31) (hb : b < 2 ^ 31) (h : nI a < nI b) : a < b := (nI_ltI ha hb).mp h
theorem nI_nltn {a b : Nat} (ha : a < 2 ^ 31) (hb : b < 2 ^ 31) (h : ¬ nI a < nI b) : b ≤ a := by
  rcases Nat.lt_or_ge a b with q | q
  · exact absurd ((nI_ltI ha hb).mpr q) h
  · exact q
theorem nI_len {a b : Nat} (ha : a < 2 ^ 31) (hb : b < 2 ^ 31) (h : nI a ≤ nI b) : a ≤ b := (nI_leI ha hb).mp h
theorem nI_nlen {a b : Nat} (ha : a < 2 ^ 31) (hb : b < 2 ^ 31) (h : ¬ nI a ≤ nI b) : b < a := by
  rcases Nat.lt_or_ge b a with q | q
  · exact q
  · exact absurd ((nI_leI ha hb).mpr q) h
set_option maxHeartbeats 4000000 in
set_option maxRecDepth 100000 in
theorem c_X0_standardAltitude (l : Launch) (E : zE) (p0 : Int32) : zR l yX0_standardAltitude wsX0_standardAltitude ({ frames := 0, cells := 0, slots := 0, locals := 0 }) E [.int p0] [] (some (.int (m_std p0))) := by
  refine z_startr (cc := cX0_standardAltitude) (maxL := 2) (ret := (some .int)) (by decide) rfl (Nat.le_of_ble_eq_true rfl) ?_
  intro Pg En s Mi below meth Cd hx hb hr hts hown hlocks hml hP hK ls hl
  have hl : lv_has ls 2 [(0, .int p0)] := hl
  refine lv_sipush (v := 10132) hx hb dX0_standardAltitude_0 (by decide) ?_
  refine lv_iload_n hx hb dX0_standardAltitude_3 rfl (lv_at hl 0 rfl) ?_
  refine lv_isub hx hb dX0_standardAltitude_4 ?_
  refine lv_topi (fun f_1 ef_1 => ?_)
  refine lv_istore_n (lv' := [(1, .int f_1), (0, .int p0)]) hx hb dX0_standardAltitude_5 rfl hl (by decide) rfl (fun ls hl => ?_)
  refine lv_iload_n hx hb dX0_standardAltitude_6 rfl (lv_at hl 0 rfl) ?_
  refine lv_if_ge (tgt := 18) hx hb dX0_standardAltitude_7 (by decide) (fun c_7 => ?_) (fun c_7 => ?_)
  · refine lv_iload_n hx hb dX0_standardAltitude_18 rfl (lv_at hl 0 rfl) ?_
    refine lv_bipush (v := 83) hx hb dX0_standardAltitude_19 (by decide) ?_
    refine lv_iload_n hx hb dX0_standardAltitude_21 rfl (lv_at hl 0 rfl) ?_
    refine lv_sipush (v := 250) hx hb dX0_standardAltitude_22 (by decide) ?_
    refine lv_idiv hx hb dX0_standardAltitude_25 (by decide) ?_
    refine lv_iadd hx hb dX0_standardAltitude_26 ?_
    refine lv_imul hx hb dX0_standardAltitude_27 ?_
    refine lv_bipush (v := 10) hx hb dX0_standardAltitude_28 (by decide) ?_
    refine lv_idiv hx hb dX0_standardAltitude_30 (by decide) ?_
    refine z_topi (y := m_std p0) (by subst ef_1; rw [m_std, if_neg (Int32.not_lt.mpr c_7)]) ?_
    exact W.iret (v := m_std p0) hx hb hr z_endR (fun _ h => by cases h) dX0_standardAltitude_31 hlocks
  · refine lv_iload_n hx hb dX0_standardAltitude_10 rfl (lv_at hl 0 rfl) ?_
    refine lv_bipush (v := 83) hx hb dX0_standardAltitude_11 (by decide) ?_
    refine lv_imul hx hb dX0_standardAltitude_13 ?_
    refine lv_bipush (v := 10) hx hb dX0_standardAltitude_14 (by decide) ?_
    refine lv_idiv hx hb dX0_standardAltitude_16 (by decide) ?_
    refine z_topi (y := m_std p0) (by subst ef_1; rw [m_std, if_pos (Int32.not_le.mp c_7)]) ?_
    exact W.iret (v := m_std p0) hx hb hr z_endR (fun _ h => by cases h) dX0_standardAltitude_17 hlocks

set_option maxHeartbeats 4000000 in
set_option maxRecDepth 100000 in
theorem c_X0_heightAt (l : Launch) (E : zE) (p0 p1 : Int32) : zR l yX0_heightAt wsX0_heightAt ({ frames := 1, cells := 0, slots := 0, locals := 21 }) E [.int p0, .int p1] [] (some (.int (m_std p0 - m_std p1))) := by
  refine z_startr (cc := cX0_heightAt) (maxL := 2) (ret := (some .int)) (by decide) rfl (Nat.le_of_ble_eq_true rfl) ?_
  intro Pg En s Mi below meth Cd hx hb hr hts hown hlocks hml hP hK ls hl
  have hl : lv_has ls 2 [(0, .int p0), (1, .int p1)] := hl
  refine lv_iload_n hx hb dX0_heightAt_0 rfl (lv_at hl 0 rfl) ?_
  refine z_rdv (va_runS (As := [.int p0]) (rest := []) ⟨hx, hb, hml, hown, hts⟩ (c_X0_standardAltitude l E p0) (va_cwS 1 hts gX0_heightAt_X0_standardAltitude rfl rfl rfl (by decide +kernel) ⟨Nat.le_of_ble_eq_true rfl, Nat.le_of_ble_eq_true rfl⟩) ⟨zPr.blind, z_prer hK zP_nil⟩ rfl rfl hl.1 rfl (lv_room (Nat.le_of_ble_eq_true rfl)) dX0_heightAt_1 ⟨Nat.le_of_ble_eq_true rfl, Nat.le_of_ble_eq_true rfl⟩) ?_
  refine W.eq (g2 := F0 Mi 4 ls [.int (m_std p0)]) rfl ?_
  refine lv_iload_n hx hb dX0_heightAt_4 rfl (lv_at hl 1 rfl) ?_
  refine z_rdv (va_runS (As := [.int p1]) (rest := [.int (m_std p0)]) ⟨hx, hb, hml, hown, hts⟩ (c_X0_standardAltitude l E p1) (va_cwS 1 hts gX0_heightAt_X0_standardAltitude rfl rfl rfl (by decide +kernel) ⟨Nat.le_of_ble_eq_true rfl, Nat.le_of_ble_eq_true rfl⟩) ⟨zPr.blind, z_prer hK zP_nil⟩ rfl rfl hl.1 rfl (lv_room (Nat.le_of_ble_eq_true rfl)) dX0_heightAt_5 ⟨Nat.le_of_ble_eq_true rfl, Nat.le_of_ble_eq_true rfl⟩) ?_
  refine W.eq (g2 := F0 Mi 8 ls [.int (m_std p1), .int (m_std p0)]) rfl ?_
  refine lv_isub hx hb dX0_heightAt_8 ?_
  exact W.iret (v := ((m_std p0) - (m_std p1))) hx hb hr z_endR (fun _ h => by cases h) dX0_heightAt_9 hlocks

/-- the pressure after some of the minutes of a trip -/
def m_way (a b k n : Int32) : Int32 := if 1 ≤ n then a + (b - a) * k / n else b

set_option maxHeartbeats 4000000 in
set_option maxRecDepth 100000 in
theorem c_X0_onTheWay (l : Launch) (E : zE) (p0 p1 p2 p3 : Int32) : zR l yX0_onTheWay wsX0_onTheWay ({ frames := 0, cells := 0, slots := 0, locals := 0 }) E [.int p0, .int p1, .int p2, .int p3] [] (some (.int (m_way p0 p1 p2 p3))) := by
  refine z_startr (cc := cX0_onTheWay) (maxL := 4) (ret := (some .int)) (by decide) rfl (Nat.le_of_ble_eq_true rfl) ?_
  intro Pg En s Mi below meth Cd hx hb hr hts hown hlocks hml hP hK ls hl
  have hl : lv_has ls 4 [(0, .int p0), (1, .int p1), (2, .int p2), (3, .int p3)] := hl
  refine lv_iload_n hx hb dX0_onTheWay_0 rfl (lv_at hl 3 rfl) ?_
  refine lv_iconst (v := 1) hx hb dX0_onTheWay_1 (by decide) ?_
  refine lv_icmp_ge (tgt := 7) hx hb dX0_onTheWay_2 (by decide) (fun c_2 => ?_) (fun c_2 => ?_)
  · refine lv_iload_n hx hb dX0_onTheWay_7 rfl (lv_at hl 0 rfl) ?_
    refine lv_iload_n hx hb dX0_onTheWay_8 rfl (lv_at hl 1 rfl) ?_
    refine lv_iload_n hx hb dX0_onTheWay_9 rfl (lv_at hl 0 rfl) ?_
    refine lv_isub hx hb dX0_onTheWay_10 ?_
    refine lv_iload_n hx hb dX0_onTheWay_11 rfl (lv_at hl 2 rfl) ?_
    refine lv_imul hx hb dX0_onTheWay_12 ?_
    refine lv_iload_n hx hb dX0_onTheWay_13 rfl (lv_at hl 3 rfl) ?_
    refine lv_idiv hx hb dX0_onTheWay_14 (fun h9 => by rw [h9] at c_2; exact absurd c_2 (by decide)) ?_
    refine lv_iadd hx hb dX0_onTheWay_15 ?_
    refine z_topi (y := m_way p0 p1 p2 p3) (by rw [m_way, if_pos c_2]) ?_
    exact W.iret (v := m_way p0 p1 p2 p3) hx hb hr z_endR (fun _ h => by cases h) dX0_onTheWay_16 hlocks
  · refine lv_iload_n hx hb dX0_onTheWay_5 rfl (lv_at hl 1 rfl) ?_
    refine z_topi (y := m_way p0 p1 p2 p3) (by rw [m_way, if_neg c_2]) ?_
    exact W.iret (v := m_way p0 p1 p2 p3) hx hb hr z_endR (fun _ h => by cases h) dX0_onTheWay_6 hlocks

set_option maxHeartbeats 4000000 in
set_option maxRecDepth 100000 in
theorem c_X0_greatestPressure (l : Launch) (E : zE) (sa x1 x2 : Int32) (L M : Nat) (e1 : x1 = nI L) (e2 : x2 = nI M) (hL : 5000 ≤ L) (hLM : L ≤ M + 1) (hM : M ≤ 11000) : zR l yX0_greatestPressure wsX0_greatestPressure ({ frames := 1, cells := 0, slots := 0, locals := 21 }) E [.int sa, .int x1, .int x2] [] (some (.int (m_down sa L (M + 1 - L)))) := by
  subst e1; subst e2
  refine z_startr (cc := cX0_greatestPressure) (maxL := 8) (ret := (some .int)) (by decide) rfl (Nat.le_of_ble_eq_true rfl) ?_
  intro Pg En s Mi below meth Cd hx hb hr hts hown hlocks hml hP hK ls hl
  have hl : lv_has ls 8 [(0, .int sa), (1, .int (nI L)), (2, .int (nI M))] := hl
  have LOOP_11 : ∀ (n : Nat) (k lo hi : Nat) (fd x6 : Int32), 13 < k + n → k ≤ 13 → x6 = nI k → L ≤ lo → hi ≤ M → lo ≤ hi + 1 → hi + 1 - lo < 2 ^ (13 - k) → fd = (if lo = L then -1 else nI (lo - 1)) → (∀ q : Nat, L ≤ q → q < lo → sa ≤ m_std (nI q)) → (∀ q : Nat, hi < q → q ≤ M → ¬ sa ≤ m_std (nI q)) →  ∀ (ls : Array Slot), lv_has ls 8 [(0, .int sa), (3, .int fd), (4, .int (nI lo)), (5, .int (nI hi)), (6, .int x6)] → W Pg l En ({ frames := 1, cells := 0, slots := 0, locals := 21 } : Room) s Mi ([.int sa, .int (nI L), .int (nI M)] : List Value).toArray below meth Cd s.heap [] 0 0 (MQ below (zQr (some (.int (m_down sa L (M + 1 - L))))) ([.int sa, .int (nI L), .int (nI M)] : List Value).toArray s 0 0 (fun _ => False)) (F0 Mi 11 ls []) := by
    intro n
    induction n with
    | zero => intro k lo hi fd x6 h1 h2 h3 h4 h5 h6 h7 h8 h9 h10; exact absurd h1 (by omega)
    | succ n ih =>
      intro k lo hi fd x6 h1 h2 h3 h4 h5 h6 h7 h8 h9 h10 ls hl
      refine lv_iload hx hb dX0_greatestPressure_11 (lv_at hl 4 rfl) ?_
      refine lv_bipush (v := 13) hx hb dX0_greatestPressure_13 (by decide) ?_
      refine lv_icmp_ge (tgt := 67) hx hb dX0_greatestPressure_15 (by decide) (fun c_15 => ?_) (fun c_15 => ?_)
      · refine lv_iload_n hx hb dX0_greatestPressure_67 rfl (lv_at hl 1 rfl) ?_
        refine z_topi (y := m_down sa L (M + 1 - L)) (by have e : lo = hi + 1 := (by have := k_13 h3 c_15 h2; subst this; omega); rw [h8, m_down_cut h4 (by omega) h9 (fun q a1 a2 => h10 q (by omega) a2)]) ?_
        exact W.iret (v := m_down sa L (M + 1 - L)) hx hb hr z_endR (fun _ h => by cases h) dX0_greatestPressure_68 hlocks
      · refine lv_iload hx hb dX0_greatestPressure_18 (lv_at hl 2 rfl) ?_
        refine lv_iload hx hb dX0_greatestPressure_20 (lv_at hl 3 rfl) ?_
        refine lv_icmp_gt (tgt := 67) hx hb dX0_greatestPressure_22 (by decide) (fun c_22 => ?_) (fun c_22 => ?_)
        · refine lv_iload_n hx hb dX0_greatestPressure_67 rfl (lv_at hl 1 rfl) ?_
          refine z_topi (y := m_down sa L (M + 1 - L)) (by have e : lo = hi + 1 := (by have := nI_ltn (by omega) (by omega) c_22; omega); rw [h8, m_down_cut h4 (by omega) h9 (fun q a1 a2 => h10 q (by omega) a2)]) ?_
          exact W.iret (v := m_down sa L (M + 1 - L)) hx hb hr z_endR (fun _ h => by cases h) dX0_greatestPressure_68 hlocks
        · refine lv_iload hx hb dX0_greatestPressure_25 (lv_at hl 2 rfl) ?_
          refine lv_iload hx hb dX0_greatestPressure_27 (lv_at hl 3 rfl) ?_
          refine lv_iadd hx hb dX0_greatestPressure_29 ?_
          refine lv_iconst (v := 2) hx hb dX0_greatestPressure_30 (by decide) ?_
          refine lv_idiv hx hb dX0_greatestPressure_31 (by decide) ?_
          have hk : k < 13 := k_lt h3 c_15 h2
          have hlh : lo ≤ hi := by have := nI_nltn (by omega) (by omega) c_22; omega
          have e2 : 2 ^ (13 - k) = 2 * 2 ^ (13 - (k + 1)) := by rw [← Nat.pow_succ']; congr 1; omega
          refine z_topi (y := nI ((lo + hi) / 2)) (by rw [nI_add]; exact pk_div (d := 2) (by omega) (by decide) (by decide)) ?_
          refine lv_istore (lv' := [(7, .int (nI ((lo + hi) / 2))), (0, .int sa), (3, .int fd), (4, .int (nI lo)), (5, .int (nI hi)), (6, .int x6)]) hx hb dX0_greatestPressure_32 hl (by decide) rfl (fun ls hl => ?_)
          refine lv_iload hx hb dX0_greatestPressure_34 (lv_at hl 0 rfl) ?_
          refine z_rdv (va_runS (As := [.int (nI ((lo + hi) / 2))]) (rest := []) ⟨hx, hb, hml, hown, hts⟩ (c_X0_standardAltitude l E (nI ((lo + hi) / 2))) (va_cwS 1 hts gX0_greatestPressure_X0_standardAltitude rfl rfl rfl (by decide +kernel) ⟨Nat.le_of_ble_eq_true rfl, Nat.le_of_ble_eq_true rfl⟩) ⟨zPr.blind, z_prer hK zP_nil⟩ rfl rfl hl.1 rfl (lv_room (Nat.le_of_ble_eq_true rfl)) dX0_greatestPressure_36 ⟨Nat.le_of_ble_eq_true rfl, Nat.le_of_ble_eq_true rfl⟩) ?_
          refine W.eq (g2 := F0 Mi 39 ls [.int (m_std (nI ((lo + hi) / 2)))]) rfl ?_
          refine lv_iload_n hx hb dX0_greatestPressure_39 rfl (lv_at hl 1 rfl) ?_
          refine lv_icmp_lt (tgt := 55) hx hb dX0_greatestPressure_40 (by decide) (fun c_40 => ?_) (fun c_40 => ?_)
          · refine lv_iload hx hb dX0_greatestPressure_55 (lv_at hl 0 rfl) ?_
            refine lv_iconst (v := 1) hx hb dX0_greatestPressure_57 (by decide) ?_
            refine lv_isub hx hb dX0_greatestPressure_58 ?_
            refine z_topi (y := nI ((lo + hi) / 2 - 1)) (pk_sub (a := (lo + hi) / 2) (b := 1) (by omega)) ?_
            refine lv_istore (lv' := [(5, .int (nI ((lo + hi) / 2 - 1))), (7, .int (nI ((lo + hi) / 2))), (0, .int sa), (3, .int fd), (4, .int (nI lo)), (6, .int x6)]) hx hb dX0_greatestPressure_59 hl (by decide) rfl (fun ls hl => ?_)
            obtain ⟨x_1, ex_1⟩ : ∃ y : Int32, y = x6 + 1 := ⟨_, rfl⟩
            refine lv_iinc (v := x_1) (lv' := [(6, .int x_1), (5, .int (nI ((lo + hi) / 2 - 1))), (7, .int (nI ((lo + hi) / 2))), (0, .int sa), (3, .int fd), (4, .int (nI lo))]) hx hb dX0_greatestPressure_61 hl (k := 5) rfl (by rw [ex_1]; rfl) (by decide) rfl (fun ls hl => ?_)
            refine lv_goto (tgt := 11) hx hb dX0_greatestPressure_64 (by decide) ?_
            exact ih (k + 1) lo (((lo + hi) / 2) - 1) fd x_1 (by omega) (by omega) (by rw [ex_1, h3]; exact nI_1 k) h4 (by omega) (by omega) (by omega) h8 h9 (fun q a1 a2 a3 => absurd (Int32.lt_of_le_of_lt a3 (Int32.lt_of_le_of_lt (m_std_le (by omega) (by omega)) c_40)) Int32.lt_irrefl) ls (lv_sub hl [3, 4, 5, 1, 0] rfl)
          · refine lv_iload hx hb dX0_greatestPressure_43 (lv_at hl 0 rfl) ?_
            refine lv_istore_n (lv' := [(3, .int (nI ((lo + hi) / 2))), (7, .int (nI ((lo + hi) / 2))), (0, .int sa), (4, .int (nI lo)), (5, .int (nI hi)), (6, .int x6)]) hx hb dX0_greatestPressure_45 rfl hl (by decide) rfl (fun ls hl => ?_)
            refine lv_iload hx hb dX0_greatestPressure_46 (lv_at hl 1 rfl) ?_
            refine lv_iconst (v := 1) hx hb dX0_greatestPressure_48 (by decide) ?_
            refine lv_iadd hx hb dX0_greatestPressure_49 ?_
            refine z_topi (y := nI ((lo + hi) / 2 + 1)) (nI_1 _) ?_
            refine lv_istore (lv' := [(4, .int (nI ((lo + hi) / 2 + 1))), (3, .int (nI ((lo + hi) / 2))), (7, .int (nI ((lo + hi) / 2))), (0, .int sa), (5, .int (nI hi)), (6, .int x6)]) hx hb dX0_greatestPressure_50 hl (by decide) rfl (fun ls hl => ?_)
            refine lv_goto (tgt := 61) hx hb dX0_greatestPressure_52 (by decide) ?_
            obtain ⟨x_2, ex_2⟩ : ∃ y : Int32, y = x6 + 1 := ⟨_, rfl⟩
            refine lv_iinc (v := x_2) (lv' := [(6, .int x_2), (4, .int (nI ((lo + hi) / 2 + 1))), (3, .int (nI ((lo + hi) / 2))), (7, .int (nI ((lo + hi) / 2))), (0, .int sa), (5, .int (nI hi))]) hx hb dX0_greatestPressure_61 hl (k := 5) rfl (by rw [ex_2]; rfl) (by decide) rfl (fun ls hl => ?_)
            refine lv_goto (tgt := 11) hx hb dX0_greatestPressure_64 (by decide) ?_
            exact ih (k + 1) (((lo + hi) / 2) + 1) hi (nI ((lo + hi) / 2)) x_2 (by omega) (by omega) (by rw [ex_2, h3]; exact nI_1 k) (by omega) h5 (by omega) (by omega) (by rw [if_neg (by omega)]; rfl) (fun q a1 a2 => Int32.le_trans (Int32.not_lt.mp c_40) (m_std_le (by omega) (by omega))) h10 ls (lv_sub hl [4, 2, 1, 5, 0] rfl)
  refine lv_iconst (v := (-1)) hx hb dX0_greatestPressure_0 (by decide) ?_
  refine lv_istore_n (lv' := [(3, .int (-1)), (0, .int sa), (1, .int (nI L)), (2, .int (nI M))]) hx hb dX0_greatestPressure_1 rfl hl (by decide) rfl (fun ls hl => ?_)
  refine lv_iload_n hx hb dX0_greatestPressure_2 rfl (lv_at hl 2 rfl) ?_
  refine lv_istore (lv' := [(4, .int (nI L)), (3, .int (-1)), (0, .int sa), (1, .int (nI L)), (2, .int (nI M))]) hx hb dX0_greatestPressure_3 hl (by decide) rfl (fun ls hl => ?_)
  refine lv_iload_n hx hb dX0_greatestPressure_5 rfl (lv_at hl 4 rfl) ?_
  refine lv_istore (lv' := [(5, .int (nI M)), (4, .int (nI L)), (3, .int (-1)), (0, .int sa), (1, .int (nI L)), (2, .int (nI M))]) hx hb dX0_greatestPressure_6 hl (by decide) rfl (fun ls hl => ?_)
  refine lv_iconst (v := 0) hx hb dX0_greatestPressure_8 (by decide) ?_
  refine lv_istore (lv' := [(6, .int 0), (5, .int (nI M)), (4, .int (nI L)), (3, .int (-1)), (0, .int sa), (1, .int (nI L)), (2, .int (nI M))]) hx hb dX0_greatestPressure_9 hl (by decide) rfl (fun ls hl => ?_)
  exact LOOP_11 14 0 L M (-1) 0 (by decide) (by decide) rfl (Nat.le_refl _) (Nat.le_refl _) hLM (by omega) (by rw [if_pos rfl]) (fun q a1 a2 => absurd a1 (by omega)) (fun q a1 a2 => absurd a1 (by omega)) ls (lv_sub hl [4, 3, 2, 1, 0] rfl)

set_option maxHeartbeats 4000000 in
set_option maxRecDepth 100000 in
theorem c_X0_nearestSea (l : Launch) (E : zE) (p0 p1 : Int32) : zR l yX0_nearestSea wsX0_nearestSea ({ frames := 2, cells := 0, slots := 0, locals := 48 }) E [.int p0, .int p1] [] (some (.int (m_near p0 p1))) := by
  refine z_startr (cc := cX0_nearestSea) (maxL := 5) (ret := (some .int)) (by decide) rfl (Nat.le_of_ble_eq_true rfl) ?_
  intro Pg En s Mi below meth Cd hx hb hr hts hown hlocks hml hP hK ls hl
  have hl : lv_has ls 5 [(0, .int p0), (1, .int p1)] := hl
  refine lv_iload_n hx hb dX0_nearestSea_0 rfl (lv_at hl 0 rfl) ?_
  refine z_rdv (va_runS (As := [.int p0]) (rest := []) ⟨hx, hb, hml, hown, hts⟩ (c_X0_standardAltitude l E p0) (va_cwS 1 hts gX0_nearestSea_X0_standardAltitude rfl rfl rfl (by decide +kernel) ⟨Nat.le_of_ble_eq_true rfl, Nat.le_of_ble_eq_true rfl⟩) ⟨zPr.blind, z_prer hK zP_nil⟩ rfl rfl hl.1 rfl (lv_room (Nat.le_of_ble_eq_true rfl)) dX0_nearestSea_1 ⟨Nat.le_of_ble_eq_true rfl, Nat.le_of_ble_eq_true rfl⟩) ?_
  refine W.eq (g2 := F0 Mi 4 ls [.int (m_std p0)]) rfl ?_
  refine lv_iload_n hx hb dX0_nearestSea_4 rfl (lv_at hl 1 rfl) ?_
  refine lv_isub hx hb dX0_nearestSea_5 ?_
  refine lv_sipush (v := 9000) hx hb dX0_nearestSea_6 (by decide) ?_
  refine lv_sipush (v := 10800) hx hb dX0_nearestSea_9 (by decide) ?_
  refine z_rdv (va_runS (As := [.int ((m_std p0) - p1), .int 9000, .int 10800]) (rest := []) ⟨hx, hb, hml, hown, hts⟩ (c_X0_greatestPressure l E ((m_std p0) - p1) 9000 10800 9000 10800 rfl rfl (by decide) (by decide) (by decide)) (va_cwS 3 hts gX0_nearestSea_X0_greatestPressure rfl rfl rfl (by decide +kernel) ⟨Nat.le_of_ble_eq_true rfl, Nat.le_of_ble_eq_true rfl⟩) ⟨zPr.blind, z_prer hK zP_nil⟩ rfl rfl hl.1 rfl (lv_room (Nat.le_of_ble_eq_true rfl)) dX0_nearestSea_12 ⟨Nat.le_of_ble_eq_true rfl, Nat.le_of_ble_eq_true rfl⟩) ?_
  refine W.eq (g2 := F0 Mi 15 ls [.int (m_down ((m_std p0) - p1) 9000 1801)]) rfl ?_
  refine lv_topi (fun f_1 ef_1 => ?_)
  refine lv_istore_n (lv' := [(2, .int f_1), (0, .int p0), (1, .int p1)]) hx hb dX0_nearestSea_15 rfl hl (by decide) rfl (fun ls hl => ?_)
  refine lv_iload_n hx hb dX0_nearestSea_16 rfl (lv_at hl 0 rfl) ?_
  refine lv_iconst (v := (-1)) hx hb dX0_nearestSea_17 (by decide) ?_
  refine lv_icmp_ne (tgt := 25) hx hb dX0_nearestSea_18 (by decide) (fun c_18 => ?_) (fun c_18 => ?_)
  · refine lv_iload_n hx hb dX0_nearestSea_25 rfl (lv_at hl 0 rfl) ?_
    refine lv_sipush (v := 10800) hx hb dX0_nearestSea_26 (by decide) ?_
    refine lv_icmp_lt (tgt := 36) hx hb dX0_nearestSea_29 (by decide) (fun c_29 => ?_) (fun c_29 => ?_)
    · refine lv_iload_n hx hb dX0_nearestSea_36 rfl (lv_at hl 2 rfl) ?_
      refine lv_iload_n hx hb dX0_nearestSea_37 rfl (lv_at hl 1 rfl) ?_
      refine lv_iload_n hx hb dX0_nearestSea_38 rfl (lv_at hl 0 rfl) ?_
      refine z_rdv (va_runS (As := [.int p0, .int f_1]) (rest := [.int p1]) ⟨hx, hb, hml, hown, hts⟩ (c_X0_heightAt l E p0 f_1) (va_cwS 2 hts gX0_nearestSea_X0_heightAt rfl rfl rfl (by decide +kernel) ⟨Nat.le_of_ble_eq_true rfl, Nat.le_of_ble_eq_true rfl⟩) ⟨zPr.blind, z_prer hK zP_nil⟩ rfl rfl hl.1 rfl (lv_room (Nat.le_of_ble_eq_true rfl)) dX0_nearestSea_39 ⟨Nat.le_of_ble_eq_true rfl, Nat.le_of_ble_eq_true rfl⟩) ?_
      refine W.eq (g2 := F0 Mi 42 ls [.int (m_std p0 - m_std f_1), .int p1]) rfl ?_
      refine lv_isub hx hb dX0_nearestSea_42 ?_
      refine lv_topi (fun f_2 ef_2 => ?_)
      refine lv_istore_n (lv' := [(3, .int f_2), (2, .int f_1), (0, .int p0), (1, .int p1)]) hx hb dX0_nearestSea_43 rfl hl (by decide) rfl (fun ls hl => ?_)
      refine lv_iload_n hx hb dX0_nearestSea_44 rfl (lv_at hl 2 rfl) ?_
      refine lv_iload_n hx hb dX0_nearestSea_45 rfl (lv_at hl 1 rfl) ?_
      refine lv_iconst (v := 1) hx hb dX0_nearestSea_46 (by decide) ?_
      refine lv_iadd hx hb dX0_nearestSea_47 ?_
      refine z_rdv (va_runS (As := [.int p0, .int (f_1 + 1)]) (rest := []) ⟨hx, hb, hml, hown, hts⟩ (c_X0_heightAt l E p0 (f_1 + 1)) (va_cwS 2 hts gX0_nearestSea_X0_heightAt rfl rfl rfl (by decide +kernel) ⟨Nat.le_of_ble_eq_true rfl, Nat.le_of_ble_eq_true rfl⟩) ⟨zPr.blind, z_prer hK zP_nil⟩ rfl rfl hl.1 rfl (lv_room (Nat.le_of_ble_eq_true rfl)) dX0_nearestSea_48 ⟨Nat.le_of_ble_eq_true rfl, Nat.le_of_ble_eq_true rfl⟩) ?_
      refine W.eq (g2 := F0 Mi 51 ls [.int (m_std p0 - m_std (f_1 + 1))]) rfl ?_
      refine lv_iload_n hx hb dX0_nearestSea_51 rfl (lv_at hl 3 rfl) ?_
      refine lv_isub hx hb dX0_nearestSea_52 ?_
      refine lv_topi (fun f_3 ef_3 => ?_)
      refine lv_istore (lv' := [(4, .int f_3), (3, .int f_2), (2, .int f_1), (0, .int p0), (1, .int p1)]) hx hb dX0_nearestSea_53 hl (by decide) rfl (fun ls hl => ?_)
      refine lv_iload_n hx hb dX0_nearestSea_55 rfl (lv_at hl 1 rfl) ?_
      refine lv_iload hx hb dX0_nearestSea_56 (lv_at hl 0 rfl) ?_
      refine lv_icmp_gt (tgt := 65) hx hb dX0_nearestSea_58 (by decide) (fun c_58 => ?_) (fun c_58 => ?_)
      · refine lv_iload_n hx hb dX0_nearestSea_65 rfl (lv_at hl 2 rfl) ?_
        refine lv_iconst (v := 1) hx hb dX0_nearestSea_66 (by decide) ?_
        refine lv_iadd hx hb dX0_nearestSea_67 ?_
        refine z_topi (y := m_near p0 p1) (by rw [m_near, ← ef_1, if_neg c_18, if_neg (Int32.not_le.mpr c_29), if_neg (by rw [← ef_2, ← ef_3]; exact Int32.not_le.mpr c_58)]) ?_
        exact W.iret (v := m_near p0 p1) hx hb hr z_endR (fun _ h => by cases h) dX0_nearestSea_68 hlocks
      · refine lv_iload_n hx hb dX0_nearestSea_61 rfl (lv_at hl 2 rfl) ?_
        refine lv_goto (tgt := 68) hx hb dX0_nearestSea_62 (by decide) ?_
        refine z_topi (y := m_near p0 p1) (by rw [m_near, ← ef_1, if_neg c_18, if_neg (Int32.not_le.mpr c_29), if_pos (by rw [← ef_2, ← ef_3]; exact Int32.not_lt.mp c_58)]) ?_
        exact W.iret (v := m_near p0 p1) hx hb hr z_endR (fun _ h => by cases h) dX0_nearestSea_68 hlocks
    · refine lv_sipush (v := 10800) hx hb dX0_nearestSea_32 (by decide) ?_
      refine z_topi (y := m_near p0 p1) (by rw [m_near, ← ef_1, if_neg c_18, if_pos (Int32.not_lt.mp c_29)]) ?_
      exact W.iret (v := m_near p0 p1) hx hb hr z_endR (fun _ h => by cases h) dX0_nearestSea_35 hlocks
  · refine lv_sipush (v := 9000) hx hb dX0_nearestSea_21 (by decide) ?_
    refine z_topi (y := m_near p0 p1) (by rw [m_near, ← ef_1, if_pos c_18]) ?_
    exact W.iret (v := m_near p0 p1) hx hb hr z_endR (fun _ h => by cases h) dX0_nearestSea_24 hlocks

