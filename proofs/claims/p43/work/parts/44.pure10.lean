/-! an alarm told ahead comes in its minute -/
section AL
variable {T : Nat} {g : Nat → Int32} {P e : Nat}
theorem m_fall_cg {n : Nat} {f f' : Nat → Int32} (h : ∀ k, k < n → f k = f' k) : m_fall n f = m_fall n f' := by
  unfold m_fall
  rw [m_mx_sh (f := f) (f' := f') (s := 0) (s' := 0) n (fun k hk => by rw [Nat.zero_add]; exact h k hk)]
  by_cases c : n = 0
  · rw [if_pos c, if_pos c]
  · rw [if_neg c, if_neg c, h (n - 1) (by omega)]
theorem w_way {K j : Nat} (he : 1 ≤ e) (hP : P ≤ 11000) (hK : e * K ≤ P) (hK1 : 1 ≤ K) (hK2 : K ≤ 120) (hj : j ≤ K) : m_way (nI P) (nI (P - e * K)) (nI j) (nI K) = nI (P - e * j) := by
  have hpos : 1 ≤ e * K := Nat.mul_pos he hK1
  rw [m_way_dn (by omega) hP hj hK1 hK2]
  congr 2
  rw [show P - (P - e * K) = e * K by omega, show e * K * j = e * j * K by rw [Nat.mul_assoc, Nat.mul_comm K j, ← Nat.mul_assoc], Nat.mul_div_cancel _ (by omega)]
theorem w_win {K : Nat} (hg : z_inv g) (h2 : ¬ g 2 = 0) (h0 : g 0 = nI P) (he : 1 ≤ e) (hP : P ≤ 11000) (hK : e * K ≤ P) (hK1 : 1 ≤ K) (hK2 : K ≤ 120) : ∀ j, j ≤ K →
    m_tripC g (nI K) (nI (P - e * K)) j 14 = nI (m_cw (m_n (g 14)) j) ∧ m_tripC g (nI K) (nI (P - e * K)) j 11 = g 11 ∧ ∀ k, k < m_cw (m_n (g 14)) j → m_log (m_tripC g (nI K) (nI (P - e * K)) j) k = m_sq (m_log g) (m_n (g 14)) P e (m_n (g 14) + j - m_cw (m_n (g 14)) j + k)
  | 0, _ => by
    have hcn := hg.1.1.2
    have ew : m_cw (m_n (g 14)) 0 = m_n (g 14) := if_pos (by omega)
    rw [ew, m_tripC]
    refine ⟨hg.1.1.1, rfl, fun k hk => ?_⟩
    rw [m_sq, if_pos (by omega)]
    congr 1
    omega
  | j + 1, hj => by
    obtain ⟨a1, a3, a4⟩ := w_win hg h2 h0 he hP hK hK1 hK2 j (by omega)
    have hcn := hg.1.1.2
    obtain ⟨cn, ecn⟩ : ∃ cn, cn = m_n (g 14) := ⟨_, rfl⟩
    rw [← ecn] at a1 a4 hcn ⊢
    have hc : m_cw cn j ≤ 60 := by unfold m_cw; split <;> omega
    have hs := m_cw_s cn j
    have e2 := (m_trip_st (g := g) (n := nI K) (p := nI (P - e * K)) j).1
    have hok : z_ok (m_tripC g (nI K) (nI (P - e * K)) j) := z_ok_trip hg.1 j
    have eW : m_way (g 0) (nI (P - e * K)) (nI (j + 1)) (nI K) = nI (P - e * (j + 1)) := by rw [h0]; exact w_way he hP hK hK1 hK2 hj
    rw [m_tripC, eW]
    obtain ⟨s, es⟩ : ∃ s, s = m_tripC g (nI K) (nI (P - e * K)) j := ⟨_, rfl⟩
    rw [← es] at a1 a3 a4 e2 hok ⊢
    have c2 : ¬ s 2 = 0 := by rw [e2]; exact h2
    have f14 : m_minC s (nI (P - e * (j + 1))) 14 = m_ln (s 14) := by simp [m_minC, c2]
    have f11 : m_minC s (nI (P - e * (j + 1))) 11 = s 11 := by simp [m_minC]
    refine ⟨?_, f11.trans a3, fun k hk => ?_⟩
    · rw [f14, a1, m_ln_nI hc, ← hs]
      unfold m_lgC
      by_cases d : m_cw cn j = 60
      · rw [d]; rfl
      · rw [if_pos (by omega), if_neg d]
    · have hk60 : k < 60 := by unfold m_cw at hk; split at hk <;> omega
      have ek : m_log (m_minC s (nI (P - e * (j + 1)))) k = m_lf (s 14) (m_log s) (nI (P - e * (j + 1))) k := by
        rw [m_log_at hk60, m_minC_log hok c2, z_tr_lt hk60]
      rw [ek, a1, m_lf_in hc hk60]
      by_cases q : k = m_lgC (m_cw cn j)
      · rw [if_pos q]
        have hle : cn + j ≥ m_lgC (m_cw cn j) := by unfold m_lgC m_cw; split <;> split <;> omega
        rw [m_sq, if_neg (by omega)]
        congr 2
        rw [show cn + (j + 1) - m_cw cn (j + 1) + k - cn + 1 = j + 1 by omega]
      · rw [if_neg q]
        by_cases d : m_cw cn j = 60
        · have hs2 : m_cw cn (j + 1) = 60 := by rw [← hs, d]; rfl
          have hl : m_lgC (m_cw cn j) = 59 := by rw [d]; rfl
          have hge : 60 ≤ cn + j := by unfold m_cw at d; split at d <;> omega
          rw [if_pos d, if_pos (by omega), a4 _ (by omega), d, hs2]
          congr 1
          omega
        · have hl : m_lgC (m_cw cn j) = m_cw cn j := if_neg d
          have hle : m_cw cn j = cn + j := by unfold m_cw at d ⊢; split at d <;> split <;> omega
          rw [if_neg d, a4 _ (by omega)]
          congr 1
          omega
theorem w_al {K : Nat} (hg : z_inv g) (h2 : ¬ g 2 = 0) (h0 : g 0 = nI P) (he : 1 ≤ e) (hP : P ≤ 11000) (hK : e * K ≤ P) (hK1 : 1 ≤ K) (hK2 : K ≤ 60) :
    (m_al (m_n (m_tripC g (nI K) (nI (P - e * K)) K 14)) (m_log (m_tripC g (nI K) (nI (P - e * K)) K)) (m_tripC g (nI K) (nI (P - e * K)) K 11) = 0) ↔ ¬ m_cls (m_log g) (m_n (g 14)) (g 0) (nI e) (g 11) K := by
  obtain ⟨a1, a3, a4⟩ := w_win hg h2 h0 he hP hK hK1 (by omega) K (Nat.le_refl _)
  have hcn := hg.1.1.2
  obtain ⟨cn, ecn⟩ : ∃ cn, cn = m_n (g 14) := ⟨_, rfl⟩
  rw [← ecn] at a1 a4 hcn ⊢
  have hei : e ≤ e * K := Nat.le_mul_of_pos_right e hK1
  obtain ⟨r, hr⟩ : ∃ r, r = cn - (cn - (60 - K)) := ⟨_, rfl⟩
  have hw : m_cw cn K = r + K := by unfold m_cw; split <;> omega
  have hst : cn + K - m_cw cn K = cn - (60 - K) := by omega
  have hcw : m_cw cn K ≤ 60 := by unfold m_cw; split <;> omega
  rw [a1, m_n_nI (by omega), a3]
  have hmx : m_mx (fun k => m_sq (m_log g) cn P e (cn - (60 - K) + k)) 0 r = m_mx (m_log g) (cn - (60 - K)) r := by
    refine m_mx_sh r (fun k hk => ?_)
    show m_sq (m_log g) cn P e (cn - (60 - K) + (0 + k)) = _
    rw [m_sq, if_pos (by omega), Nat.zero_add]
  have hap := m_mx_app (f := fun k => m_sq (m_log g) cn P e (cn - (60 - K) + k)) (s := 0) (r := r) (i := K) hP (fun j hj => by
    show m_sq (m_log g) cn P e (cn - (60 - K) + (0 + r + j)) = _
    rw [m_sq, if_neg (by omega)]
    congr 2
    rw [show cn - (60 - K) + (0 + r + j) - cn + 1 = j + 1 by omega]) hmx.symm (K - 1) (by omega)
  have hlast : m_sq (m_log g) cn P e (cn - (60 - K) + (r + K - 1)) = nI (P - e * K) := by
    rw [m_sq, if_neg (by omega)]
    congr 2
    rw [show cn - (60 - K) + (r + K - 1) - cn + 1 = K by omega]
  have ep : g 0 - nI e = nI (P - e) := by rw [h0, pk_sub (by omega)]
  have epi : g 0 - nI e * nI K = nI (P - e * K) := by rw [h0, pk_mul, pk_sub (by omega)]
  have ef : m_fall (m_cw cn K) (m_log (m_tripC g (nI K) (nI (P - e * K)) K)) = (if m_mx (m_log g) (cn - (60 - K)) r < nI (P - e) then nI (P - e) else m_mx (m_log g) (cn - (60 - K)) r) - nI (P - e * K) := by
    rw [m_fall_cg (f' := fun k => m_sq (m_log g) cn P e (cn - (60 - K) + k)) (fun k hk => by rw [a4 k hk, hst])]
    unfold m_fall
    rw [if_neg (by omega), hw, show r + K = r + (K - 1 + 1) by omega, hap]
    show _ - m_sq (m_log g) cn P e (cn - (60 - K) + (r + (K - 1 + 1) - 1)) = _
    rw [show r + (K - 1 + 1) - 1 = r + K - 1 by omega, hlast]
  unfold m_al m_cls
  rw [ef, ep, epi, ← hr]
  constructor
  · intro z c
    rw [if_pos c] at z
    exact absurd z (by decide)
  · intro c
    rw [if_neg c]
theorem w_mof {f : Nat → Int32} {cn : Nat} {p per lim : Int32} : ∀ k m, m_mof f cn p per lim k m = -1 ∨ ∃ i, m ≤ i ∧ i < m + k ∧ m_mof f cn p per lim k m = nI i ∧ ¬ p - per * nI i < 5000 ∧ m_cls f cn p per lim i ∧ ∀ j, m ≤ j → j < i → ¬ m_cls f cn p per lim j
  | 0, _ => Or.inl rfl
  | k + 1, m => by
    rw [m_mof]
    by_cases c : p - per * nI m < 5000
    · rw [if_pos c]; exact Or.inl rfl
    · rw [if_neg c]
      by_cases d : m_cls f cn p per lim m
      · refine Or.inr ⟨m, Nat.le_refl _, by omega, ?_, c, d, fun j h1 h2 => absurd h1 (by omega)⟩
        unfold m_cls at d
        rw [if_pos d]
      · have d' := d
        unfold m_cls at d'
        rw [if_neg d']
        rcases w_mof (f := f) (cn := cn) (p := p) (per := per) (lim := lim) k (m + 1) with h | ⟨i, h1, h2, h3, h4, h5, h6⟩
        · exact Or.inl h
        · refine Or.inr ⟨i, by omega, by omega, h3, h4, h5, fun j j1 j2 => ?_⟩
          by_cases q : j = m
          · rw [q]; exact d
          · exact h6 j (by omega) j2
/-- the alarm of a state -/
def w_is (g : Nat → Int32) : Int32 := m_al (m_n (g 14)) (m_log g) (g 11)
/-- a trip of i minutes down, x a minute -/
def w_tr (g : Nat → Int32) (x n : Int32) : Nat → Int32 := m_tripC g n (g 0 - n * x) (m_n n)
def w_leg (g : Nat → Int32) (x n : Int32) : Prop := (1 ≤ n ∧ n ≤ 120) ∧ (5000 ≤ g 0 - n * x ∧ g 0 - n * x ≤ 11000)
theorem w_ahead {x : Int32} (hg : z_g T g) (hx : x = nI e) (he : 1 ≤ e) (he2 : e ≤ 20) :
    (g 2 = 0 ∧ m_muC g x = -1) ∨ (¬ g 2 = 0 ∧ ¬ w_is g = 0 ∧ m_muC g x = 0) ∨ (¬ g 2 = 0 ∧ w_is g = 0 ∧ m_muC g x = -1) ∨
    ∃ i : Nat, 1 ≤ i ∧ i ≤ 60 ∧ ¬ g 2 = 0 ∧ w_is g = 0 ∧ m_muC g x = nI i ∧ w_leg g x (nI i) ∧ ¬ w_is (w_tr g x (nI i)) = 0 ∧ (2 ≤ i → w_leg g x (nI i - 1) ∧ w_is (w_tr g x (nI i - 1)) = 0) := by
  by_cases c : g 2 = 0
  · refine Or.inl ⟨c, ?_⟩
    rw [m_muC, if_pos c]
  · refine Or.inr ?_
    by_cases d : w_is g = 0
    · refine Or.inr ?_
      have em : m_muC g x = m_mof (m_log g) (m_n (g 14)) (g 0) x (g 11) 60 1 := by
        rw [m_muC, if_neg c]
        exact if_pos d
      rw [em]
      rcases w_mof (f := m_log g) (cn := m_n (g 14)) (p := g 0) (per := x) (lim := g 11) 60 1 with h | ⟨i, h1, h2, h3, h4, h5, h6⟩
      · exact Or.inl ⟨c, d, h⟩
      · obtain ⟨P, e0, hP1, hP2⟩ := hg.1.2.1
        have hei : e * i ≤ 1200 := Nat.le_trans (Nat.mul_le_mul he2 (show i ≤ 60 by omega)) (by decide)
        have h50 : 5000 ≤ P - e * i := by
          rw [e0, hx, pk_mul, pk_sub (by omega)] at h4
          exact nI_nltn (b := 5000) (by omega) (by decide) h4
        have leg : ∀ K, 1 ≤ K → K ≤ i → w_leg g x (nI K) ∧ w_tr g x (nI K) = m_tripC g (nI K) (nI (P - e * K)) K := by
          intro K hK1 hK2
          have hm : e * K ≤ e * i := Nat.mul_le_mul_left e hK2
          have ep : g 0 - nI K * x = nI (P - e * K) := by rw [e0, hx, pk_mul, Nat.mul_comm K e, pk_sub (by omega)]
          refine ⟨⟨⟨nI_le (a := 1) hK1 (by omega), nI_le (b := 120) (by omega) (by decide)⟩, ?_⟩, ?_⟩
          · rw [ep]
            exact ⟨nI_le (a := 5000) (by omega) (by omega), nI_le (b := 11000) (by omega) (by decide)⟩
          · rw [w_tr, ep, m_n_nI (by omega)]
        have hal : ∀ K, 1 ≤ K → K ≤ i → (w_is (w_tr g x (nI K)) = 0 ↔ ¬ m_cls (m_log g) (m_n (g 14)) (g 0) x (g 11) K) := by
          intro K hK1 hK2
          have hm : e * K ≤ e * i := Nat.mul_le_mul_left e hK2
          rw [(leg K hK1 hK2).2, hx]
          exact w_al hg.1 c e0 he hP2 (by omega) hK1 (by omega)
        refine Or.inr ⟨i, h1, by omega, c, d, h3, (leg i h1 (Nat.le_refl _)).1, fun z => (hal i h1 (Nat.le_refl _)).mp z h5, fun hi => ?_⟩
        have e1 : nI i - 1 = nI (i - 1) := by
          have := nI_pred (i - 1)
          rw [show i - 1 + 1 = i by omega] at this
          exact this
        rw [e1]
        exact ⟨(leg (i - 1) (by omega) (by omega)).1, (hal (i - 1) (by omega) (by omega)).mpr (h6 (i - 1) (by omega) (by omega))⟩
    · refine Or.inl ⟨c, d, ?_⟩
      rw [m_muC, if_neg c]
      exact if_neg d
end AL
