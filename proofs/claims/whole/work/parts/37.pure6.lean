/-! class and reference alike, call by call -/
def z_LR (sv fl : Nat → Int32) (d : Nat) (sd ln nx ct f0 f1 : Int32) (g ga gb : Nat → Int32) (v : Nat → Nat → Int32) : Prop := z_R sv fl d nx ct f0 f1 g ga gb v ∧ sd = nI d ∧ ln = nI (m_n ln) ∧ m_n ln ≤ 60
theorem q_nat {x L H : Int32} {l h : Nat} (hL : L = nI l) (hH : H = nI h) (hl : l < 2 ^ 31) (hh : h < 2 ^ 31) (h1 : L ≤ x) (h2 : x ≤ H) : x = nI (m_n x) ∧ l ≤ m_n x ∧ m_n x ≤ h := by
  have h0 : ¬ x < 0 := fun z => by
    have a := (fa_le _ _).mp h1
    have b := (fa_lt _ _).mp z
    rw [hL, nI_toInt hl] at a
    rw [k_0I] at b
    omega
  obtain ⟨j, hj, rfl⟩ := nI_of h0
  rw [m_n_nI hj]
  rw [hL] at h1
  rw [hH] at h2
  exact ⟨rfl, nI_len hl hj h1, nI_len hj hh h2⟩
theorem q_sg {x : Int32} (h : -5000 ≤ x ∧ x ≤ 50000) : -100000 ≤ x.toInt ∧ x.toInt ≤ 100000 := by
  have a := (fa_le _ _).mp h.1
  have b := (fa_le _ _).mp h.2
  rw [show (-5000 : Int32).toInt = -5000 from by decide] at a
  rw [show (50000 : Int32).toInt = 50000 from by decide] at b
  omega
theorem q_trp {n p : Int32} (h : (1 ≤ n ∧ n ≤ 120) ∧ (5000 ≤ p ∧ p ≤ 11000)) : m_trp n p = 1 := by
  unfold m_trp
  rw [m_in_y h.1, m_in_y h.2, if_neg (by decide), if_neg (by decide)]
theorem q_trpn {n p : Int32} (h : ¬ ((1 ≤ n ∧ n ≤ 120) ∧ (5000 ≤ p ∧ p ≤ 11000))) : m_trp n p = 0 := by
  unfold m_trp
  by_cases a : 1 ≤ n ∧ n ≤ 120
  · rw [m_in_y a, if_neg (by decide), m_in_n (fun b => h ⟨a, b⟩), if_pos rfl]
  · rw [m_in_n a, if_pos rfl]
section QQ
variable {sv fl : Nat → Int32} {d : Nat} {sd ln nx ct f0 f1 : Int32} {g ga gb : Nat → Int32} {v : Nat → Nat → Int32}
theorem q_h (hR : z_LR sv fl d sd ln nx ct f0 f1 g ga gb v) : ∀ i, i < 116 → sv i = g i := hR.1.1
theorem q_inv (hR : z_LR sv fl d sd ln nx ct f0 f1 g ga gb v) : z_inv g := hR.1.2.1
theorem q_wk (hR : z_LR sv fl d sd ln nx ct f0 f1 g ga gb v) : z_wk ln nx ct f0 f1 g ga gb v := z_R_wk hR.1 hR.2.2
theorem q_sd (hR : z_LR sv fl d sd ln nx ct f0 f1 g ga gb v) : sd = nI d := hR.2.1
theorem q_d (hR : z_LR sv fl d sd ln nx ct f0 f1 g ga gb v) : d ≤ 6 := hR.1.2.2.1.2
theorem q_m (hR : z_LR sv fl d sd ln nx ct f0 f1 g ga gb v) : sv 14 = nI (m_n (g 14)) := by rw [q_h hR 14 (by decide)]; exact (q_inv hR).1.1.1
theorem q_m6 (hR : z_LR sv fl d sd ln nx ct f0 f1 g ga gb v) : m_n (g 14) ≤ 60 := (q_inv hR).1.1.2
theorem q_c (hR : z_LR sv fl d sd ln nx ct f0 f1 g ga gb v) : sv 75 = nI (m_n (g 75)) := by rw [q_h hR 75 (by decide)]; exact (q_inv hR).1.2.1.1
theorem q_c9 (hR : z_LR sv fl d sd ln nx ct f0 f1 g ga gb v) : m_n (g 75) ≤ 10 := (q_inv hR).1.2.1.2
theorem q_2 (hR : z_LR sv fl d sd ln nx ct f0 f1 g ga gb v) : sv 2 = 0 ∨ sv 2 = 1 := by rw [q_h hR 2 (by decide)]; exact (q_inv hR).1.2.2.1
theorem q_p (hR : z_LR sv fl d sd ln nx ct f0 f1 g ga gb v) : sv 0 = nI (m_n (g 0)) ∧ 5000 ≤ m_n (g 0) ∧ m_n (g 0) ≤ 11000 := by
  obtain ⟨P, h0, hP⟩ := (q_inv hR).2.1
  rw [q_h hR 0 (by decide), h0, m_n_nI (by omega)]
  exact ⟨rfl, hP⟩
theorem q_ok (hR : z_LR sv fl d sd ln nx ct f0 f1 g ga gb v) : z_ok sv := by
  unfold z_ok
  rw [q_h hR 14 (by decide), q_h hR 75 (by decide), q_h hR 2 (by decide), q_h hR 13 (by decide)]
  exact (q_inv hR).1
theorem q_save (hR : z_LR sv fl d sd ln nx ct f0 f1 g ga gb v) : z_LR (m_svA sv d) fl (m_svC d) (nI (m_svC d)) ln (nI ((m_n nx + 1) % 6)) (nI (if m_n ct < 6 then m_n ct + 1 else 6)) f0 f1 g ga gb (va_up v (m_n nx) g) := ⟨z_R_save hR.1, rfl, hR.2.2⟩
theorem q_cur {sv' g' : Nat → Int32} (hR : z_LR sv fl d sd ln nx ct f0 f1 g ga gb v) (h : ∀ i, i < 116 → sv' i = g' i) (hg : z_inv g') (hx : ∀ x, 116 ≤ x → x < 1044 → sv' x = sv x) : z_LR sv' fl d sd ln nx ct f0 f1 g' ga gb v := ⟨z_R_cur hR.1 h hg hx, hR.2⟩
theorem q_row {sv' : Nat → Int32} (hR : z_LR sv fl d sd ln nx ct f0 f1 g ga gb v) (hx : ∀ x, x < 1044 → sv' x = sv x) : z_LR sv' fl d sd ln nx ct f0 f1 g ga gb v :=
  q_cur hR (fun i hi => (hx i (by omega)).trans (q_h hR i hi)) (q_inv hR) (fun x _ h => hx x h)
theorem q_lnm {ln' : Int32} (hR : z_LR sv fl d sd ln nx ct f0 f1 g ga gb v) (h : ln' = nI (m_n ln') ∧ m_n ln' ≤ 60) : z_LR sv fl d sd ln' nx ct f0 f1 g ga gb v := ⟨hR.1, hR.2.1, h⟩
theorem q_ln0 (hR : z_LR sv fl d sd ln nx ct f0 f1 g ga gb v) : z_LR sv fl d sd 0 nx ct f0 f1 g ga gb v := q_lnm hR ⟨by decide, by decide⟩
theorem q_travel {n p : Int32} (hR : z_LR sv fl d sd ln nx ct f0 f1 g ga gb v) (h : (1 ≤ n ∧ n ≤ 120) ∧ (5000 ≤ p ∧ p ≤ 11000)) :
    m_std (m_tripC g n p (m_n n) 0) - m_std (m_tripC g n p (m_n n) 1) = m_std (m_trA (m_svA sv d) 0 n p (m_n n) (0 + 0)) - m_std (m_trA (m_svA sv d) 0 n p (m_n n) (0 + 1)) ∧
    z_LR (m_trA (m_svA sv d) 0 n p (m_n n)) fl (m_svC d) (nI (m_svC d)) ln (nI ((m_n nx + 1) % 6)) (nI (if m_n ct < 6 then m_n ct + 1 else 6)) f0 f1 (m_tripC g n p (m_n n)) ga gb (va_up v (m_n nx) g) := by
  obtain ⟨hN, hN1, hN2⟩ := q_nat (l := 1) (h := 120) rfl rfl (by decide) (by decide) h.1.1 h.1.2
  obtain ⟨hP, hP2⟩ := q_nat (l := 5000) (h := 11000) rfl rfl (by decide) (by decide) h.2.1 h.2.2
  have hS := q_save hR
  obtain ⟨t1, t2⟩ := m_trip_eq (sv := m_svA sv d) (b := 0) (fun i hi => by rw [Nat.zero_add]; exact q_h hS i hi) (q_inv hR) hN hN1 hN2 hP hP2 (m_n n) (Nat.le_refl _)
  have t3 : ∀ i, i < 116 → m_trA (m_svA sv d) 0 n p (m_n n) i = m_tripC g n p (m_n n) i := fun i hi => by
    have := t2 i hi
    rw [Nat.zero_add] at this
    exact this
  refine ⟨by rw [show (0 + 0 : Nat) = 0 from rfl, show (0 + 1 : Nat) = 1 from rfl, t3 0 (by decide), t3 1 (by decide)], q_cur hS t3 t1 (fun x hx _ => m_trA_out (b := 0) (q_m hS) (q_m6 hS) (Or.inr (by omega)) _)⟩
theorem q_T9 {n p : Int32} (hR : z_LR sv fl d sd ln nx ct f0 f1 g ga gb v) (h : (1 ≤ n ∧ n ≤ 120) ∧ (5000 ≤ p ∧ p ≤ 11000)) :
    (∀ i, i < 116 → m_trA (m_cpA sv 0 9 116) 1044 n p (m_n n) (1044 + i) = m_tripC g n p (m_n n) i) ∧ z_LR (m_trA (m_cpA sv 0 9 116) 1044 n p (m_n n)) fl d sd ln nx ct f0 f1 g ga gb v ∧ ∀ x, x < 1044 → m_trA (m_cpA sv 0 9 116) 1044 n p (m_n n) x = sv x := by
  obtain ⟨hN, hN1, hN2⟩ := q_nat (l := 1) (h := 120) rfl rfl (by decide) (by decide) h.1.1 h.1.2
  obtain ⟨hP, hP2⟩ := q_nat (l := 5000) (h := 11000) rfl rfl (by decide) (by decide) h.2.1 h.2.2
  have h9 : ∀ i, i < 116 → m_cpA sv 0 9 116 (1044 + i) = g i := fun i hi => (m_cp9 hi).trans (q_h hR i hi)
  obtain ⟨t1, t2⟩ := m_trip_eq (sv := m_cpA sv 0 9 116) (b := 1044) h9 (q_inv hR) hN hN1 hN2 hP hP2 (m_n n) (Nat.le_refl _)
  have hx : ∀ x, x < 1044 → m_trA (m_cpA sv 0 9 116) 1044 n p (m_n n) x = sv x := fun x hx => by
    rw [m_trA_out (b := 1044) (m := m_n (g 14)) (by rw [h9 14 (by decide)]; exact (q_inv hR).1.1.1) (q_m6 hR) (Or.inl hx)]
    exact m_cpA_ne _ (Or.inl (by omega))
  exact ⟨t2, q_row hR hx, hx⟩
theorem q_hat {n p : Int32} (hR : z_LR sv fl d sd ln nx ct f0 f1 g ga gb v) (h : (1 ≤ n ∧ n ≤ 120) ∧ (5000 ≤ p ∧ p ≤ 11000)) :
    m_hatC g p = m_std (m_trA (m_cpA sv 0 9 116) 1044 n p (m_n n) (1044 + 0)) - m_std (m_trA (m_cpA sv 0 9 116) 1044 n p (m_n n) (1044 + 1)) := by
  obtain ⟨hN, hN1, hN2⟩ := q_nat (l := 1) (h := 120) rfl rfl (by decide) (by decide) h.1.1 h.1.2
  obtain ⟨hP, hP2⟩ := q_nat (l := 5000) (h := 11000) rfl rfl (by decide) (by decide) h.2.1 h.2.2
  rw [(q_T9 hR h).1 0 (by decide), (q_T9 hR h).1 1 (by decide)]
  exact (m_hat_eq (q_inv hR) hN hN1 hN2 hP hP2).symm
theorem q_asc {n p : Int32} (hR : z_LR sv fl d sd ln nx ct f0 f1 g ga gb v) (h : (1 ≤ n ∧ n ≤ 120) ∧ (5000 ≤ p ∧ p ≤ 11000)) :
    m_ascR g n p (m_n n) = m_trA (m_cpA sv 0 9 116) 1044 n p (m_n n) 1051 - m_trA (m_cpA sv 0 9 116) 1044 n p (m_n n) 7 := by
  have a := (q_T9 hR h).1 7 (by decide)
  have b := (q_T9 hR h).2.2 7 (by decide)
  rw [show (1044 + 7 : Nat) = 1051 from rfl] at a
  rw [a, b, q_h hR 7 (by decide)]
  exact (m_asc_eq _).symm
theorem q_setStation {on : Int32} (hR : z_LR sv fl d sd ln nx ct f0 f1 g ga gb v) (hon : on = 0 ∨ on = 1) : z_LR (if sv 2 = on then m_svA sv d else m_swA (m_svA sv d) on) fl (m_svC d) (nI (m_svC d)) ln (nI ((m_n nx + 1) % 6)) (nI (if m_n ct < 6 then m_n ct + 1 else 6)) f0 f1 (m_swC g on) ga gb (va_up v (m_n nx) g) := by
  have hS := q_save hR
  rw [q_h hR 2 (by decide)]
  by_cases c : g 2 = on
  · have e : m_swC g on = g := by funext i; rw [m_swC, if_pos c]
    rw [if_pos c, e]
    exact hS
  · rw [if_neg c]
    exact q_cur hS (fun i hi => m_sw_eq (q_h hS) hon c hi) (z_inv_sw (q_inv hR) hon) (fun x hx _ => m_swA_hi hx)
theorem q_setSea {x : Int32} (hR : z_LR sv fl d sd ln nx ct f0 f1 g ga gb v) (h : 9000 ≤ x ∧ x ≤ 10800) : z_LR (m_stA (upd (m_svA sv d) 1 x)) fl (m_svC d) (nI (m_svC d)) ln (nI ((m_n nx + 1) % 6)) (nI (if m_n ct < 6 then m_n ct + 1 else 6)) f0 f1 (m_seaC g x) ga gb (va_up v (m_n nx) g) := by
  have hS := q_save hR
  obtain ⟨hx, hx2⟩ := q_nat (l := 9000) (h := 10800) rfl rfl (by decide) (by decide) h.1 h.2
  exact q_cur hS (fun i hi => m_sea_eq (q_h hS) (q_inv hR).1.2.2.1 hi) (z_inv_sea (q_inv hR) hx hx2) (fun x hx _ => m_stA_hi hx)
theorem q_calibrate {x : Int32} (hR : z_LR sv fl d sd ln nx ct f0 f1 g ga gb v) (h : -5000 ≤ x ∧ x ≤ 50000) : m_std (g 0) - m_std (g 1) - x = m_std (m_svA sv d (0 + 0)) - m_std (m_svA sv d (0 + 1)) - x ∧ z_LR (m_caA (m_svA sv d) x) fl (m_svC d) (nI (m_svC d)) ln (nI ((m_n nx + 1) % 6)) (nI (if m_n ct < 6 then m_n ct + 1 else 6)) f0 f1 (m_calC g x) ga gb (va_up v (m_n nx) g) := by
  have hS := q_save hR
  refine ⟨?_, q_cur hS (fun i hi => m_cal_eq (q_h hS) (q_inv hR) (q_sg h) hi) (z_inv_cal (q_inv hR) (q_sg h)) (fun x hx _ => m_caA_hi hx)⟩
  rw [show (0 + 0 : Nat) = 0 from rfl, show (0 + 1 : Nat) = 1 from rfl, q_h hS 0 (by decide), q_h hS 1 (by decide)]
theorem q_thr {x : Int32} (hR : z_LR sv fl d sd ln nx ct f0 f1 g ga gb v) (h : 10 ≤ x ∧ x ≤ 500) : z_LR (upd (m_svA sv d) 10 x) fl (m_svC d) (nI (m_svC d)) ln (nI ((m_n nx + 1) % 6)) (nI (if m_n ct < 6 then m_n ct + 1 else 6)) f0 f1 (upd g 10 x) ga gb (va_up v (m_n nx) g) := by
  have hS := q_save hR
  obtain ⟨hx, hx2⟩ := q_nat (l := 10) (h := 500) rfl rfl (by decide) (by decide) h.1 h.2
  exact q_cur hS (fun i hi => m_upd_eq (q_h hS) hi) (z_inv_thr (q_inv hR) hx hx2) (fun x hx _ => pk_un (by omega))
theorem q_lim {x : Int32} (hR : z_LR sv fl d sd ln nx ct f0 f1 g ga gb v) (h : 10 ≤ x ∧ x ≤ 200) : z_LR (upd (m_svA sv d) 11 x) fl (m_svC d) (nI (m_svC d)) ln (nI ((m_n nx + 1) % 6)) (nI (if m_n ct < 6 then m_n ct + 1 else 6)) f0 f1 (upd g 11 x) ga gb (va_up v (m_n nx) g) := by
  have hS := q_save hR
  obtain ⟨hx, hx2⟩ := q_nat (l := 10) (h := 200) rfl rfl (by decide) (by decide) h.1 h.2
  exact q_cur hS (fun i hi => m_upd_eq (q_h hS) hi) (z_inv_lim (q_inv hR) hx hx2) (fun x hx _ => pk_un (by omega))
theorem q_setMark (hR : z_LR sv fl d sd ln nx ct f0 f1 g ga gb v) : m_kn (g 75) = nI (m_mkN (m_n (g 75)) + 1) ∧ z_LR (m_mkA (m_svA sv d) (m_n (g 75))) fl (m_svC d) (nI (m_svC d)) ln (nI ((m_n nx + 1) % 6)) (nI (if m_n ct < 6 then m_n ct + 1 else 6)) f0 f1 (m_mkC g) ga gb (va_up v (m_n nx) g) := by
  have hS := q_save hR
  refine ⟨?_, q_cur hS (fun i hi => m_mk_eq (q_h hS) (q_inv hR).1 hi) (z_inv_mk (q_inv hR)) (fun x hx _ => m_mkA_hi (q_c9 hR) hx)⟩
  have hc := (q_inv hR).1.2.1
  obtain ⟨c, e⟩ : ∃ c, c = m_n (g 75) := ⟨_, rfl⟩
  rw [← e] at hc ⊢
  rw [hc.1, m_kn_nI hc.2]
  congr 1
  unfold m_mkN
  split <;> split <;> omega
theorem q_mk_y {x : Int32} (hR : z_LR sv fl d sd ln nx ct f0 f1 g ga gb v) (h : 0 ≤ x ∧ x < g 75) : m_in x 0 (sv 75 - 1) = 1 ∧ x = nI (m_n x) ∧ m_n x < 10 := by
  have hc := q_c hR
  have h10 := q_c9 hR
  have h2 := h.2
  rw [(q_inv hR).1.2.1.1] at h2
  obtain ⟨c, e⟩ : ∃ c, c = m_n (g 75) := ⟨_, rfl⟩
  rw [← e] at hc h10 h2
  have h0 : ¬ x < 0 := Int32.not_lt.mpr h.1
  obtain ⟨j, hj, rfl⟩ := nI_of h0
  have hjc := nI_ltn hj (by omega) h2
  rw [m_n_nI hj]
  refine ⟨m_in_y ⟨h.1, ?_⟩, rfl, by omega⟩
  rw [hc, z_subI (a := c) (b := 1) rfl (rfl : (1 : Int32) = nI 1) (by omega)]
  exact nI_le (by omega) (by omega)
theorem q_mk_n {x : Int32} (hR : z_LR sv fl d sd ln nx ct f0 f1 g ga gb v) (h : ¬ (0 ≤ x ∧ x < g 75)) : m_in x 0 (sv 75 - 1) = 0 := by
  refine m_in_n (fun z => h ⟨z.1, ?_⟩)
  have hc := q_c hR
  have h10 := q_c9 hR
  have z2 := z.2
  rw [(q_inv hR).1.2.1.1]
  obtain ⟨c, e⟩ : ∃ c, c = m_n (g 75) := ⟨_, rfl⟩
  rw [← e] at hc h10 ⊢
  have h0 : ¬ x < 0 := Int32.not_lt.mpr z.1
  obtain ⟨j, hj, rfl⟩ := nI_of h0
  rw [hc] at z2
  have a := (fa_le _ _).mp z2
  rw [nI_toInt hj, show (1 : Int32) = nI 1 from rfl, pk_sub_toInt (by omega) (by omega)] at a
  exact nI_lt (by omega) (by omega)
theorem q_mk_el {x : Int32} {o : Nat} (hR : z_LR sv fl d sd ln nx ct f0 f1 g ga gb v) (h : 0 ≤ x ∧ x < g 75) (ho : o < 4) : m_el 10 (z_tr 10 (fun k => g (4 * k + (76 + o)))) x = sv (76 + (4 * m_n x) + o) := by
  obtain ⟨-, hx, hk⟩ := q_mk_y hR h
  rw [m_el_tr hx hk (by decide), q_h hR _ (by omega)]
  congr 1
  omega
theorem q_pressureAt {x : Int32} (hR : z_LR sv fl d sd ln nx ct f0 f1 g ga gb v) (h : -5000 ≤ x ∧ x ≤ 50000) : m_down (x + m_std (g 1)) 5000 6001 = m_dnM x (m_std (sv 1)) 6001 := by
  obtain ⟨S, h1, hS⟩ := (q_inv hR).2.2.1
  have e1 := m_std_toInt (p := S) (by omega)
  have r1 := m_stdN_rng (p := S) (by omega) (by omega)
  rw [q_h hR 1 (by decide), m_dn_eq (q_sg h) (by rw [h1, e1]; omega) 6001 (Nat.le_refl _)]
theorem q_mu {x : Int32} (hR : z_LR sv fl d sd ln nx ct f0 f1 g ga gb v) (h : 1 ≤ x ∧ x ≤ 20) : m_muC g x = m_uaV sv (m_n (g 14)) x := by
  obtain ⟨hx, hx1, hx2⟩ := q_nat (l := 1) (h := 20) rfl rfl (by decide) (by decide) h.1 h.2
  exact (m_ua_eq (q_h hR) (q_inv hR) hx hx1 hx2).symm
theorem q_muR {x : Int32} (hR : z_LR sv fl d sd ln nx ct f0 f1 g ga gb v) : z_LR (m_uaW sv (m_n (g 14)) x) fl d sd ln nx ct f0 f1 g ga gb v := q_row hR (fun _ hx => m_uaW_lo (q_m hR) (q_m6 hR) hx)
theorem q_log (hR : z_LR sv fl d sd ln nx ct f0 f1 g ga gb v) : ∀ k, k < m_n (g 14) → sv (0 + 15 + k) = m_log g k := fun k hk => by
  have := q_m6 hR
  rw [m_log_at (by omega), q_h hR _ (by omega)]
  congr 1
  omega
theorem q_fall (hR : z_LR sv fl d sd ln nx ct f0 f1 g ga gb v) : m_fall (m_n (g 14)) (m_log g) = m_fallM sv 0 (m_n (g 14)) := (m_fall_eq (b := 0) (q_log hR)).symm
theorem q_al (hR : z_LR sv fl d sd ln nx ct f0 f1 g ga gb v) : m_al (m_n (g 14)) (m_log g) (g 11) = m_alM sv 0 (m_n (g 14)) := by
  rw [m_al_eq (b := 0) (q_log hR), show (0 + 11 : Nat) = 11 from rfl, q_h hR 11 (by decide)]
theorem q_digest (hR : z_LR sv fl d sd ln nx ct f0 f1 g ga gb v) : m_dg g = m_dgM sv (m_n (g 14)) (m_n (g 75)) := by
  have e1 := q_pressureAt hR (x := 1000) ⟨by decide, by decide⟩
  have e2 := q_mu hR (x := 5) ⟨by decide, by decide⟩
  have e3 := q_fall hR
  have e4 := q_al hR
  have ehr : ∀ h, m_hr g h = m_hrM sv (m_n (g 14)) h := fun h => by
    unfold m_hr m_hrM
    rw [← e3, ← e4, show (0 + 0 : Nat) = 0 from rfl, show (0 + 1 : Nat) = 1 from rfl, q_h hR 0 (by decide), q_h hR 1 (by decide), q_h hR 2 (by decide), q_h hR 4 (by decide), q_h hR 5 (by decide), q_h hR 6 (by decide), q_h hR 7 (by decide), q_h hR 8 (by decide), q_h hR 9 (by decide), q_h hR 12 (by decide), q_h hR 14 (by decide)]
  have ehm : ∀ h i, i ≤ 10 → m_hm g h i = m_hmM sv h i := fun h i => by
    induction i with
    | zero => intro _; rw [m_hm, m_hmM, q_h hR 75 (by decide)]
    | succ i ih =>
      intro hi
      rw [m_hm, m_hmM, ih (by omega), q_h hR 78 (by decide), q_h hR (76 + (4 * i)) (by omega), q_h hR (76 + (4 * i) + 1) (by omega), q_h hR (76 + (4 * i) + 2) (by omega), show 4 * i + 76 = 76 + 4 * i by omega, show 4 * i + 77 = 76 + 4 * i + 1 by omega, show 4 * i + 78 = 76 + 4 * i + 2 by omega]
  unfold m_dg m_dgM
  rw [e1, e2, ehr, ehm _ _ (q_c9 hR)]
theorem q_ctd (hR : z_LR sv fl d sd ln nx ct f0 f1 g ga gb v) : ct = sd := by rw [hR.1.2.2.1.1, hR.2.1]
theorem q_undo (hR : z_LR sv fl d sd ln nx ct f0 f1 g ga gb v) (h : ¬ ct = 0) : 1 ≤ d ∧ nI (m_n ct - 1) = nI (d - 1) ∧ z_LR (m_cpA sv d 0 116) fl (d - 1) (nI (d - 1)) ln (nI ((m_n nx + 5) % 6)) (nI (m_n ct - 1)) f0 f1 (v ((m_n nx + 5) % 6)) ga gb v := by
  obtain ⟨hct, hd⟩ := hR.1.2.2.1
  have h1 : 1 ≤ d := by
    rcases Nat.eq_zero_or_pos d with z | z
    · exact absurd (by rw [hct, z]; rfl) h
    · exact z
  refine ⟨h1, by rw [hct, m_n_nI (by omega)], z_R_undo hR.1 h1, rfl, hR.2.2⟩
theorem q_01 {x : Int32} (h : 0 ≤ x ∧ x ≤ 1) : m_in x 0 1 = 1 ∧ x = nI (m_n x) ∧ m_n x < 2 := by
  obtain ⟨a, b, c⟩ := q_nat (l := 0) (h := 1) rfl rfl (by decide) (by decide) h.1 h.2
  exact ⟨m_in_y h, a, by omega⟩
theorem q_store {x : Int32} (hR : z_LR sv fl d sd ln nx ct f0 f1 g ga gb v) (h : 0 ≤ x ∧ x ≤ 1) : m_std (g 0) - m_std (g 1) = m_std (m_cpA sv 0 (7 + m_n x) 116 (0 + 0)) - m_std (m_cpA sv 0 (7 + m_n x) 116 (0 + 1)) ∧ z_LR (m_cpA sv 0 (7 + m_n x) 116) (upd fl (m_n x) 1) d sd ln nx ct (if x = 0 then 1 else f0) (if x = 0 then f1 else 1) g (if x = 0 then g else ga) (if x = 0 then gb else g) v := by
  obtain ⟨-, hx, hk⟩ := q_01 h
  refine ⟨?_, z_R_store hR.1 hx hk, hR.2⟩
  rw [show (0 + 0 : Nat) = 0 from rfl, show (0 + 1 : Nat) = 1 from rfl, m_cpA_ne _ (Or.inl (by omega)), m_cpA_ne _ (Or.inl (by omega)), q_h hR 0 (by decide), q_h hR 1 (by decide)]
theorem q_fl {x : Int32} (hR : z_LR sv fl d sd ln nx ct f0 f1 g ga gb v) (h : 0 ≤ x ∧ x ≤ 1) : fl (m_n x) = if x = 0 then f0 else f1 := by
  obtain ⟨-, hx, hk⟩ := q_01 h
  obtain ⟨-, -, hl0, hl1⟩ := hR.1.2.2.2.2.2.1
  rcases (show m_n x = 0 ∨ m_n x = 1 by omega) with q | q
  · rw [q] at hx ⊢
    have e0 : x = 0 := hx
    rw [if_pos e0, hl0]
  · rw [q] at hx ⊢
    have e0 : ¬ x = 0 := by rw [hx]; decide
    rw [if_neg e0, hl1]
theorem q_recall {x : Int32} (hR : z_LR sv fl d sd ln nx ct f0 f1 g ga gb v) (h : (0 ≤ x ∧ x ≤ 1) ∧ ¬ (if x = 0 then f0 else f1) = 0) :
    m_std ((if x = 0 then ga else gb) 0) - m_std ((if x = 0 then ga else gb) 1) = m_std (m_cpA (m_svA sv d) (7 + m_n x) 0 116 (0 + 0)) - m_std (m_cpA (m_svA sv d) (7 + m_n x) 0 116 (0 + 1)) ∧
    z_LR (m_cpA (m_svA sv d) (7 + m_n x) 0 116) fl (m_svC d) (nI (m_svC d)) ln (nI ((m_n nx + 1) % 6)) (nI (if m_n ct < 6 then m_n ct + 1 else 6)) f0 f1 (if x = 0 then ga else gb) ga gb (va_up v (m_n nx) g) := by
  obtain ⟨-, hx, hk⟩ := q_01 h.1
  have hZ : z_LR (m_cpA (m_svA sv d) (7 + m_n x) 0 116) fl (m_svC d) (nI (m_svC d)) ln (nI ((m_n nx + 1) % 6)) (nI (if m_n ct < 6 then m_n ct + 1 else 6)) f0 f1 (if x = 0 then ga else gb) ga gb (va_up v (m_n nx) g) := ⟨z_R_recall hR.1 hx hk h.2, rfl, hR.2.2⟩
  refine ⟨?_, hZ⟩
  rw [show (0 + 0 : Nat) = 0 from rfl, show (0 + 1 : Nat) = 1 from rfl, q_h hZ 0 (by decide), q_h hZ 1 (by decide)]
theorem q_ap {x : Int32} (hR : z_LR sv fl d sd ln nx ct f0 f1 g ga gb v) (h : ln < 60) : m_n ln < 60 ∧ z_LR sv fl d sd (ln + 1) nx ct f0 f1 g ga gb v := by
  have hl := k_ltn hR.2.2.1 hR.2.2.2 h
  refine ⟨hl, q_lnm hR ?_⟩
  have e : ln + 1 = nI (m_n ln + 1) := by
    have := z_addI hR.2.2.1 (rfl : (1 : Int32) = nI 1)
    exact this
  rw [e, m_n_nI (by omega)]
  exact ⟨rfl, by omega⟩
theorem q_ap60 (hR : z_LR sv fl d sd ln nx ct f0 f1 g ga gb v) (h : ¬ ln < 60) : ln = 60 := by
  have h2 := hR.2.2
  have e : m_n ln = 60 := by
    rcases Nat.lt_or_ge (m_n ln) 60 with z | z
    · exact absurd (by rw [h2.1]; exact nI_lt (b := 60) z (by decide)) h
    · omega
  rw [h2.1, e]
  rfl
theorem q_fe {tx : Nat → Int32} (hR : z_LR sv fl d sd ln nx ct f0 f1 g ga gb v) (pt mi nu : Int32) : nI (m_fe tx (m_n ln)) = nI (m_IT tx (m_n ln) pt mi nu).2.1 := by rw [(m_IT_eq hR.2.2.2 pt mi nu).1]
theorem q_wh {tx : Nat → Int32} (hR : z_LR sv fl d sd ln nx ct f0 f1 g ga gb v) (pt mi nu : Int32) (h : m_whole tx (m_n ln)) : (m_IT tx (m_n ln) pt mi nu).1 = 1 := (m_itt01 _ _ _ _ _ _ _).resolve_left ((m_IT_eq hR.2.2.2 pt mi nu).2.mpr h)
theorem q_whn {tx : Nat → Int32} (hR : z_LR sv fl d sd ln nx ct f0 f1 g ga gb v) (pt mi nu : Int32) (h : ¬ m_whole tx (m_n ln)) : (m_IT tx (m_n ln) pt mi nu).1 = 0 := Classical.not_not.mp (fun z => h ((m_IT_eq hR.2.2.2 pt mi nu).2.mp z))
theorem q_run {tx : Nat → Int32} (hR : z_LR sv fl d sd ln nx ct f0 f1 g ga gb v) (pt mi nu : Int32) (h : m_whole tx (m_n ln)) :
    m_std (m_endC g tx (m_n ln) 0) - m_std (m_endC g tx (m_n ln) 1) = m_std ((m_goM tx (m_n ln) 61 0 pt mi nu (m_svA sv d)).2 0) - m_std ((m_goM tx (m_n ln) 61 0 pt mi nu (m_svA sv d)).2 1) ∧
    z_LR (m_goM tx (m_n ln) 61 0 pt mi nu (m_svA sv d)).2 fl (m_svC d) (nI (m_svC d)) 0 (nI ((m_n nx + 1) % 6)) (nI (if m_n ct < 6 then m_n ct + 1 else 6)) f0 f1 (m_endC g tx (m_n ln)) ga gb (va_up v (m_n nx) g) := by
  have hS := q_save hR
  obtain ⟨a, b, c⟩ := m_go_eq (tx := tx) (g := g) (sv0 := m_svA sv d) hR.2.2.2 h 61 0 pt 0 mi nu (m_svA sv d) (by omega) (by omega) rfl (fun k hk => absurd hk (by omega)) (fun i hi => q_h hS i hi) (q_inv hR) (fun x _ => rfl)
  refine ⟨by rw [a 0 (by decide), a 1 (by decide)], q_ln0 (q_cur hS a b (fun x hx _ => c x hx))⟩
end QQ
theorem q_start : z_LR m_s0 (fun _ => 0) 0 0 0 0 0 0 0 m_g0 m_g0 m_g0 (fun _ => m_g0) := by
  have hb2 := z_inv_b2 z_inv_g0
  refine ⟨⟨fun i hi => ?_, z_inv_g0, ⟨rfl, by decide⟩, ⟨by decide, by decide⟩, fun k hk => absurd hk (by omega), ⟨Or.inl rfl, Or.inl rfl, rfl, rfl⟩, fun h => absurd rfl h, fun h => absurd rfl h, hb2, hb2, fun k _ => hb2⟩, rfl, by decide, by decide⟩
  unfold m_s0 m_g0
  by_cases c11 : i = 11
  · subst c11; rfl
  · rw [pk_un c11]
    by_cases c10 : i = 10
    · subst c10; rfl
    · rw [pk_un c10]
      by_cases c1 : i = 1
      · subst c1; rfl
      · rw [pk_un c1]
        by_cases c0 : i = 0
        · subst c0; rfl
        · rw [pk_un c0, if_neg c0, if_neg c1, if_neg c10, if_neg c11]
