/-! class and reference alike: the texts -/
theorem m_bgl1 (least most : Int32) : ∀ (f : Nat) (low high : Int32), m_bgl least most f low high 1 = 1
  | 0, _, _ => rfl
  | f + 1, low, high => by
    rw [m_bgl]
    split
    · rw [if_neg (by decide)]
      exact m_bgl1 least most f _ _
    · rfl
theorem m_bgl0 {least most : Int32} {mm : Nat} (hmm : most = nI mm) (hm : mm ≤ 50000) : ∀ (k f w : Nat) (high : Int32), 1 ≤ w → w ≤ 600000 → mm < w * 10 ^ k → k ≤ f → (m_bgl least most f (nI w) high 0 = 0 ↔ m_cgl (nI w) high least most k = 0)
  | 0, f, w, high, h1, h2, h3, _ => by
    have hn : ¬ nI w ≤ most := by rw [hmm]; exact nI_ge (by omega) (by omega)
    cases f with
    | zero => exact ⟨fun _ => rfl, fun _ => rfl⟩
    | succ f =>
      rw [m_bgl, if_neg hn]
      exact ⟨fun _ => rfl, fun _ => rfl⟩
  | k + 1, 0, w, high, _, _, _, h4 => absurd h4 (by omega)
  | k + 1, f + 1, w, high, h1, h2, h3, h4 => by
    rw [m_bgl, m_cgl]
    by_cases c : nI w ≤ most
    · rw [if_pos c, if_pos c, if_pos rfl]
      have hw : w ≤ mm := nI_len (by omega) (by omega) (by rw [← hmm]; exact c)
      by_cases d : least ≤ high
      · rw [if_pos d, if_pos d, m_bgl1]
      · rw [if_neg d, if_neg d]
        have e1 : 10 * nI w = nI (10 * w) := z_mulI (rfl : (10 : Int32) = nI 10) rfl
        have e2 : nI w * 10 = nI (10 * w) := by rw [Int32.mul_comm]; exact e1
        rw [e1, e2, Int32.mul_comm high 10]
        refine m_bgl0 hmm hm k f (10 * w) _ (by omega) (by omega) ?_ (by omega)
        rw [Nat.pow_succ] at h3
        have : w * (10 ^ k * 10) = 10 * w * 10 ^ k := by rw [Nat.mul_comm (10 ^ k) 10, ← Nat.mul_assoc, Nat.mul_comm w 10]
        omega
    · rw [if_neg c, if_neg c]
theorem m_bg_cg {v least most : Int32} {w mm : Nat} (hv : v = nI w) (h1 : 1 ≤ w) (h2 : w ≤ 600000) (hmm : most = nI mm) (hm : mm ≤ 50000) : m_bgM v least most = 0 ↔ m_cg v least most = 0 := by
  have h := m_bgl0 (least := least) hmm hm 5 600001 w v h1 h2 (by omega) (by decide)
  unfold m_bgM m_cg
  rw [if_neg (by rw [hv]; exact nI_ne0 (by omega) (by omega))]
  rw [← hv] at h
  exact h
/-- where a number is read from j0 on: what the class holds, what the reference holds -/
def m_Q (j0 ll mm i : Nat) (nuC nuR : Int32) : Prop := (i = j0 ∧ nuC = -1 ∧ nuR = 0) ∨ (j0 < i ∧ nuC = nuR ∧ ∃ w : Nat, nuR = nI w ∧ w ≤ mm ∧ (1 ≤ w ∨ ll = 0))
theorem m_in_0 {v lo hi : Int32} (h : m_in v lo hi = 0) : v < lo ∨ hi < v := by
  unfold m_in at h
  split at h
  · split at h
    · exact absurd h (by decide)
    · rename_i c
      exact Or.inr (Int32.not_le.mp c)
  · rename_i c
    exact Or.inl (Int32.not_le.mp c)
theorem m_nst {tx : Nat → Int32} {n j0 ll mm i : Nat} {least most nuC nuR : Int32} (hl : least = nI ll) (hll : ll ≤ 5000) (hmm : most = nI mm) (hm : mm ≤ 50000) (hn : n ≤ 60) (hj : j0 ≤ n) (hi : i ≤ n) (hQ : m_Q j0 ll mm i nuC nuR) :
    (m_rnC (m_sgM tx n i) (nI i) (nI j0) nuR least most = 0 ↔ ¬ (i < n ∧ ¬ m_rdo nuC (tx i) least most = 0)) ∧
    (¬ m_rnC (m_sgM tx n i) (nI i) (nI j0) nuR least most = 0 → m_Q j0 ll mm (i + 1) (m_lon nuC (tx i)) (10 * nuR + m_sgM tx n i - 48) ∧ (48 ≤ tx i ∧ tx i ≤ 57)) := by
  rcases Nat.lt_or_ge i n with q | q
  · have es : m_sgM tx n i = tx i := if_pos q
    rw [es]
    by_cases di : m_in (tx i) 48 57 = 0
    · have ez : m_rnC (tx i) (nI i) (nI j0) nuR least most = 0 := by rw [m_rnC, if_pos di]
      have er : m_rdo nuC (tx i) least most = 0 := by
        unfold m_rdo
        rcases m_in_0 di with c | c
        · rw [if_pos c]
        · by_cases c2 : tx i < 48
          · rw [if_pos c2]
          · rw [if_neg c2, if_pos c]
      exact ⟨⟨fun _ h => h.2 er, fun _ => ez⟩, fun h => absurd ez h⟩
    · have hd := m_in_p di
      obtain ⟨dg, hdg, hsg⟩ := k_dig (Int32.not_lt.mpr hd.1) (Int32.not_lt.mpr hd.2)
      have lo0 : ¬ tx i < 48 := Int32.not_lt.mpr hd.1
      have hi0 : ¬ (57 : Int32) < tx i := Int32.not_lt.mpr hd.2
      rcases hQ with ⟨e1, e2, e3⟩ | ⟨e1, e2, w, e3, hw, hw1⟩
      · have elon : m_lon nuC (tx i) = nI dg := by
          have := k_lon (nu := nuC) (c := tx i) (n := 0) (d := dg) (by rw [e2]; rfl) hsg
          rw [this]
          congr 1
          omega
        have enew : 10 * nuR + tx i - 48 = nI dg := by
          rw [e3, hsg]
          have := z_subI (a := 10 * 0 + (dg + 48)) (b := 48) (z_addI (z_mulI (rfl : (10 : Int32) = nI 10) (rfl : (0 : Int32) = nI 0)) (rfl : nI (dg + 48) = nI (dg + 48))) (rfl : (48 : Int32) = nI 48) (by omega)
          rw [this]
          congr 1
          omega
        have er : m_rdo nuC (tx i) least most = m_cg (nI dg) least most := by
          unfold m_rdo
          rw [if_neg lo0, if_neg hi0, if_neg (by rw [e2]; decide), elon]
        have ec : m_rnC (tx i) (nI i) (nI j0) nuR least most = if tx i = 48 then (if least = 0 then 1 else 0) else m_bgM (nI dg) least most := by
          rw [m_rnC, if_neg di, if_pos (by rw [e1]), enew]
        rw [ec, er, elon, enew]
        by_cases z : dg = 0
        · subst z
          have c48 : tx i = 48 := hsg
          rw [if_pos c48]
          have eg : m_cg (nI 0) least most = if least ≤ 0 then 1 else 0 := if_pos rfl
          rw [eg]
          by_cases l0 : ll = 0
          · have a1 : least = 0 := by rw [hl, l0]; rfl
            rw [if_pos a1, if_pos (by rw [a1]; decide)]
            exact ⟨⟨fun h => absurd h (by decide), fun h => absurd ⟨q, by decide⟩ h⟩, fun _ => ⟨Or.inr ⟨by omega, rfl, 0, rfl, by omega, Or.inr l0⟩, hd⟩⟩
          · have a1 : ¬ least = 0 := by rw [hl]; exact nI_ne0 (by omega) (by omega)
            have a2 : ¬ least ≤ 0 := by rw [hl]; exact nI_nle (by omega) (by omega)
            rw [if_neg a1, if_neg a2]
            exact ⟨⟨fun _ h => h.2 rfl, fun _ => rfl⟩, fun h => absurd rfl h⟩
        · have c48 : ¬ tx i = 48 := by
            rw [hsg]
            intro h9
            have := (nI_eq (a := dg + 48) (b := 48) (by omega) (by omega)).mp h9
            omega
          rw [if_neg c48]
          have hbc := m_bg_cg (v := nI dg) (least := least) rfl (by omega) (by omega) hmm hm
          refine ⟨⟨fun h h9 => h9.2 (hbc.mp h), fun h => ?_⟩, fun h => ⟨Or.inr ⟨by omega, rfl, dg, rfl, ?_, Or.inl (by omega)⟩, hd⟩⟩
          · rcases Classical.em (m_bgM (nI dg) least most = 0) with y | y
            · exact y
            · exact absurd ⟨q, fun h9 => y (hbc.mpr h9)⟩ h
          · have := m_bg_le h
            rw [hmm] at this
            exact nI_len (by omega) (by omega) this
      · have elon : m_lon nuC (tx i) = nI (w * 10 + dg) := k_lon (by rw [e2, e3, m_max0, if_neg (nI_pos (by omega))]) hsg
        have enew : 10 * nuR + tx i - 48 = nI (w * 10 + dg) := by
          rw [e3, hsg]
          have := z_subI (a := 10 * w + (dg + 48)) (b := 48) (z_addI (z_mulI (rfl : (10 : Int32) = nI 10) (rfl : nI w = nI w)) (rfl : nI (dg + 48) = nI (dg + 48))) (rfl : (48 : Int32) = nI 48) (by omega)
          rw [this]
          congr 1
          omega
        have ne : ¬ nI i = nI j0 := by
          intro h9
          have := (nI_eq (a := i) (b := j0) (by omega) (by omega)).mp h9
          omega
        rw [elon, enew]
        by_cases w0 : w = 0
        · have ez : m_rnC (tx i) (nI i) (nI j0) nuR least most = 0 := by rw [m_rnC, if_neg di, if_neg ne, if_pos (by rw [e3, w0]; decide)]
          have er : m_rdo nuC (tx i) least most = 0 := by
            unfold m_rdo
            rw [if_neg lo0, if_neg hi0, if_pos (by rw [e2, e3, w0]; rfl)]
          exact ⟨⟨fun _ h => h.2 er, fun _ => ez⟩, fun h => absurd ez h⟩
        · have ec : m_rnC (tx i) (nI i) (nI j0) nuR least most = m_bgM (nI (w * 10 + dg)) least most := by
            rw [m_rnC, if_neg di, if_neg ne, if_neg (by rw [e3]; exact nI_nle (by omega) (by omega)), enew]
          have er : m_rdo nuC (tx i) least most = m_cg (nI (w * 10 + dg)) least most := by
            unfold m_rdo
            rw [if_neg lo0, if_neg hi0, if_neg (by rw [e2, e3]; exact nI_ne0 (by omega) (by omega)), elon]
          have hbc := m_bg_cg (v := nI (w * 10 + dg)) (least := least) rfl (by omega) (by omega) hmm hm
          rw [ec, er]
          refine ⟨⟨fun h h9 => h9.2 (hbc.mp h), fun h => ?_⟩, fun h => ⟨Or.inr ⟨by omega, rfl, w * 10 + dg, rfl, ?_, Or.inl (by omega)⟩, hd⟩⟩
          · rcases Classical.em (m_bgM (nI (w * 10 + dg)) least most = 0) with y | y
            · exact y
            · exact absurd ⟨q, fun h9 => y (hbc.mpr h9)⟩ h
          · have := m_bg_le h
            rw [hmm] at this
            exact nI_len (by omega) (by omega) this
  · have es : m_sgM tx n i = 0 := if_neg (by omega)
    have ez : m_rnC (m_sgM tx n i) (nI i) (nI j0) nuR least most = 0 := by rw [es, m_rnC, if_pos (by decide)]
    exact ⟨⟨fun _ h => absurd h.1 (by omega), fun _ => ez⟩, fun h => absurd ez h⟩
/-- the state of the class's reader within a number: by the kind of the part -/
def m_kd (k j0 i : Nat) : Int32 := if k = 3 then 3 else if k = 2 then 2 else if i = j0 then 0 else 1
def m_lo (k : Nat) : Nat := if k = 3 then 0 else if k = 2 then 5000 else 1
def m_hi (k : Nat) : Nat := if k = 3 then 50000 else if k = 2 then 11000 else 120
theorem m_dig_ne {c : Int32} (h : 48 ≤ c ∧ c ≤ 57) : ¬ c = 59 ∧ ¬ c = 62 ∧ ¬ c = 99 ∧ ¬ c = 109 ∧ ¬ c = 115 := by
  have h2 := h.2
  refine ⟨fun e => ?_, fun e => ?_, fun e => ?_, fun e => ?_, fun e => ?_⟩ <;> (rw [e] at h2; exact absurd h2 (by decide))
/-- a digit in the class -/
theorem m_dig_st {k j0 i : Nat} {mi nu c : Int32} (hk : k = 1 ∨ k = 2 ∨ k = 3) (hi : j0 ≤ i) (hc : 48 ≤ c ∧ c ≤ 57) (h : ¬ m_rdo nu c (nI (m_lo k)) (nI (m_hi k)) = 0) :
    m_rs (m_kd k j0 i, mi, nu) c = (m_kd k j0 (i + 1), mi, m_lon nu c) ∧ ¬ m_rso (m_kd k j0 i) nu c = 0 := by
  obtain ⟨n59, n62, n99, n109, n115⟩ := m_dig_ne hc
  have hn : m_rdn nu c (nI (m_lo k)) (nI (m_hi k)) = m_lon nu c := by rw [m_rdn, if_neg h]
  rcases hk with e | e | e
  · subst e
    change ¬ m_rdo nu c 1 120 = 0 at h
    change m_rdn nu c 1 120 = m_lon nu c at hn
    have k1 : m_kd 1 j0 (i + 1) = 1 := by unfold m_kd; rw [if_neg (by decide), if_neg (by decide), if_neg (by omega)]
    rw [k1]
    by_cases ij : i = j0
    · have k0 : m_kd 1 j0 i = 0 := by unfold m_kd; rw [if_neg (by decide), if_neg (by decide), if_pos ij]
      rw [k0]
      constructor
      · unfold m_rs m_rsp m_rsm m_rsn
        simp only [if_neg n59, if_neg n62, if_neg n99, if_neg n109, if_neg n115, if_neg h, hn, if_true]
        rfl
      · unfold m_rso
        rw [if_neg n59, if_pos rfl, if_neg n99, if_neg n109, if_neg n115]
        exact h
    · have k0 : m_kd 1 j0 i = 1 := by unfold m_kd; rw [if_neg (by decide), if_neg (by decide), if_neg ij]
      rw [k0]
      constructor
      · unfold m_rs m_rsp m_rsm m_rsn
        simp only [if_neg n59, if_neg n62, hn, if_neg (show ¬ (1 : Int32) = 0 by decide), if_true]
      · unfold m_rso
        rw [if_neg n59, if_neg (by decide), if_pos rfl, if_neg n62]
        exact h
  · subst e
    change ¬ m_rdo nu c 5000 11000 = 0 at h
    change m_rdn nu c 5000 11000 = m_lon nu c at hn
    have k0 : ∀ i, m_kd 2 j0 i = 2 := fun i => rfl
    rw [k0, k0]
    constructor
    · unfold m_rs m_rsp m_rsm m_rsn
      simp only [if_neg n59, hn, if_neg (show ¬ (2 : Int32) = 0 by decide), if_neg (show ¬ (2 : Int32) = 1 by decide), if_true]
    · unfold m_rso
      rw [if_neg n59, if_neg (by decide), if_neg (by decide), if_pos rfl]
      exact h
  · subst e
    change ¬ m_rdo nu c 0 50000 = 0 at h
    change m_rdn nu c 0 50000 = m_lon nu c at hn
    have k0 : ∀ i, m_kd 3 j0 i = 3 := fun i => rfl
    rw [k0, k0]
    constructor
    · unfold m_rs m_rsp m_rsm m_rsn
      simp only [if_neg n59, hn, if_neg (show ¬ (3 : Int32) = 0 by decide), if_neg (show ¬ (3 : Int32) = 1 by decide), if_neg (show ¬ (3 : Int32) = 2 by decide), if_true]
    · unfold m_rso
      rw [if_neg n59, if_neg (by decide), if_neg (by decide), if_neg (by decide), if_pos rfl]
      exact h
/-- the class reads the character at k -/
def m_ac (tx : Nat → Int32) (k : Nat) : Prop := ¬ m_rso (m_run tx k).1 (m_run tx k).2.2 (tx k) = 0
theorem m_num {tx : Nat → Int32} {n j0 k : Nat} {mi : Int32} (hk : k = 1 ∨ k = 2 ∨ k = 3) (hn : n ≤ 60) (hj : j0 ≤ n) : ∀ (f i : Nat) (nuC nuR : Int32), 60 < i + f → j0 ≤ i → i ≤ n → m_Q j0 (m_lo k) (m_hi k) i nuC nuR → m_run tx i = (m_kd k j0 i, mi, nuC) →
    ∃ (i' : Nat) (nuC' nuR' : Int32), m_rnL tx n (nI j0) (nI (m_lo k)) (nI (m_hi k)) f i nuR = (i', nuR') ∧ i ≤ i' ∧ i' ≤ n ∧ m_Q j0 (m_lo k) (m_hi k) i' nuC' nuR' ∧ m_run tx i' = (m_kd k j0 i', mi, nuC') ∧ (∀ q, i ≤ q → q < i' → m_ac tx q ∧ ¬ tx q = 59) ∧ ¬ (i' < n ∧ ¬ m_rdo nuC' (tx i') (nI (m_lo k)) (nI (m_hi k)) = 0)
  | 0, i, nuC, nuR, h1, _, h3, _, _ => absurd h1 (by omega)
  | f + 1, i, nuC, nuR, h1, h2, h3, hQ, hr => by
    have hlo : m_lo k ≤ 5000 := by rcases hk with e | e | e <;> subst e <;> decide
    have hhi : m_hi k ≤ 50000 := by rcases hk with e | e | e <;> subst e <;> decide
    obtain ⟨s1, s2⟩ := m_nst (tx := tx) (least := nI (m_lo k)) (most := nI (m_hi k)) rfl hlo rfl hhi hn hj h3 hQ
    rw [m_rnL]
    by_cases c : m_rnC (m_sgM tx n i) (nI i) (nI j0) nuR (nI (m_lo k)) (nI (m_hi k)) = 0
    · rw [if_pos c]
      exact ⟨i, nuC, nuR, rfl, Nat.le_refl _, h3, hQ, hr, fun q a b => absurd a (by omega), s1.mp c⟩
    · rw [if_neg c]
      obtain ⟨q1, q2⟩ := s2 c
      have ha : i < n ∧ ¬ m_rdo nuC (tx i) (nI (m_lo k)) (nI (m_hi k)) = 0 := Classical.not_not.mp (mt s1.mpr c)
      obtain ⟨d1, d2⟩ := m_dig_st (mi := mi) hk h2 q2 ha.2
      have hr' : m_run tx (i + 1) = (m_kd k j0 (i + 1), mi, m_lon nuC (tx i)) := by
        show m_rs (m_run tx i) (tx i) = _
        rw [hr]
        exact d1
      obtain ⟨i', nuC', nuR', e1, e2, e3, e4, e5, e6, e7⟩ := m_num hk hn hj f (i + 1) _ _ (by omega) (by omega) ha.1 q1 hr'
      refine ⟨i', nuC', nuR', e1, by omega, e3, e4, e5, fun q a b => ?_, e7⟩
      by_cases z : q = i
      · rw [z]
        refine ⟨?_, (m_dig_ne q2).1⟩
        unfold m_ac
        rw [hr]
        exact d2
      · exact e6 q (by omega) b
theorem m_rnR_at {tx : Nat → Int32} {n j0 k : Nat} {mi : Int32} (hk : k = 1 ∨ k = 2 ∨ k = 3) (hn : n ≤ 60) (hj : j0 ≤ n) (hr : m_run tx j0 = (m_kd k j0 j0, mi, -1)) :
    ∃ (i' : Nat) (nuC' nuR' : Int32), m_rnR tx n j0 (nI (m_lo k)) (nI (m_hi k)) = (i', nuR') ∧ j0 ≤ i' ∧ i' ≤ n ∧ m_Q j0 (m_lo k) (m_hi k) i' nuC' nuR' ∧ m_run tx i' = (m_kd k j0 i', mi, nuC') ∧ (∀ q, j0 ≤ q → q < i' → m_ac tx q ∧ ¬ tx q = 59) ∧ ¬ (i' < n ∧ ¬ m_rdo nuC' (tx i') (nI (m_lo k)) (nI (m_hi k)) = 0) := by
  exact m_num (mi := mi) hk hn hj 61 j0 (-1) 0 (by omega) (Nat.le_refl _) hj (Or.inl ⟨rfl, rfl, rfl⟩) hr
/-- how a part that the class read goes with the reference's -/
def m_mt (r : m_R) (part mi nu : Int32) : Prop := (part = 115 ∧ r.1 = 4) ∨ (part = 109 ∧ r.1 = 5) ∨ (part = 99 ∧ r.1 = 3 ∧ r.2.2 = nu ∧ ∃ w : Nat, nu = nI w ∧ w ≤ 50000) ∨ (part = 0 ∧ r.1 = 2 ∧ r.2.1 = mi ∧ r.2.2 = nu ∧ (∃ w : Nat, nu = nI w ∧ 5000 ≤ w ∧ w ≤ 11000) ∧ ∃ q : Nat, mi = nI q ∧ 1 ≤ q ∧ q ≤ 120)
/-- what holds of a part read from j on: r is the reference's -/
def m_PT (tx : Nat → Int32) (n j : Nat) (r : Int32 × Nat × Int32 × Int32 × Int32) : Prop :=
  j ≤ r.2.1 ∧ r.2.1 ≤ n ∧ (∀ q, j ≤ q → q < r.2.1 → m_ac tx q ∧ ¬ tx q = 59) ∧
  (¬ r.1 = 0 → ¬ m_pw (m_run tx r.2.1).1 (m_run tx r.2.1).2.2 = 0 ∧ m_mt (m_run tx r.2.1) r.2.2.1 r.2.2.2.1 r.2.2.2.2 ∧ (r.2.1 < n → ¬ tx r.2.1 = 59 → ¬ m_ac tx r.2.1)) ∧
  (r.1 = 0 → m_pw (m_run tx r.2.1).1 (m_run tx r.2.1).2.2 = 0 ∧ (r.2.1 < n → ¬ m_ac tx r.2.1))
theorem m_rnV_at {tx : Nat → Int32} {n i i' : Nat} {least most nuR' : Int32} (h : m_rnR tx n i least most = (i', nuR')) : m_rnV tx n i least most = if i < i' then m_in nuR' least most else 0 := by
  unfold m_rnV
  rw [h]
/-- a number of kind 2 or 3 at the end of a part -/
theorem m_PT_num {tx : Nat → Int32} {n j j0 k : Nat} {mi mr part : Int32} (hk : k = 2 ∨ k = 3) (hn : n ≤ 60) (hj : j0 ≤ n) (hjj : j ≤ j0) (hr : m_run tx j0 = (m_kd k j0 j0, mi, -1)) (hac : ∀ q, j ≤ q → q < j0 → m_ac tx q ∧ ¬ tx q = 59)
    (hp : (k = 3 → part = 99) ∧ (k = 2 → part = 0 ∧ mi = mr ∧ ∃ q : Nat, mr = nI q ∧ 1 ≤ q ∧ q ≤ 120)) :
    m_PT tx n j (m_rnV tx n j0 (nI (m_lo k)) (nI (m_hi k)), (m_rnR tx n j0 (nI (m_lo k)) (nI (m_hi k))).1, part, mr, (m_rnR tx n j0 (nI (m_lo k)) (nI (m_hi k))).2) := by
  obtain ⟨i', nuC', nuR', e1, e2, e3, e4, e5, e6, e7⟩ := m_rnR_at (Or.inr hk) hn hj hr
  rw [m_rnV_at e1, e1]
  have hall : ∀ q, j ≤ q → q < i' → m_ac tx q ∧ ¬ tx q = 59 := fun q a b => by
    rcases Nat.lt_or_ge q j0 with z | z
    · exact hac q a z
    · exact e6 q z b
  have hkd2 : m_kd 2 j0 i' = 2 := rfl
  have hkd3 : m_kd 3 j0 i' = 3 := rfl
  have hnot : i' < n → ¬ tx i' = 59 → ¬ m_ac tx i' := by
    intro a b c
    unfold m_ac at c
    rw [e5] at c
    have hz : m_rdo nuC' (tx i') (nI (m_lo k)) (nI (m_hi k)) = 0 := by
      rcases Classical.em (m_rdo nuC' (tx i') (nI (m_lo k)) (nI (m_hi k)) = 0) with z | z
      · exact z
      · exact absurd ⟨a, z⟩ e7
    unfold m_rso at c
    rcases hk with e | e
    · subst e
      rw [hkd2] at c
      change m_rdo nuC' (tx i') 5000 11000 = 0 at hz
      dsimp only at c
      rw [if_neg b, if_neg (by decide), if_neg (by decide), if_pos rfl, hz] at c
      exact c rfl
    · subst e
      rw [hkd3] at c
      change m_rdo nuC' (tx i') 0 50000 = 0 at hz
      dsimp only at c
      rw [if_neg b, if_neg (by decide), if_neg (by decide), if_neg (by decide), if_pos rfl, hz] at c
      exact c rfl
  refine ⟨by show j ≤ i'; omega, e3, hall, fun hne => ?_, fun he => ?_⟩
  · show ¬ m_pw (m_run tx i').1 (m_run tx i').2.2 = 0 ∧ m_mt (m_run tx i') part mr nuR' ∧ (i' < n → ¬ tx i' = 59 → ¬ m_ac tx i')
    rw [e5]
    change ¬ (if j0 < i' then m_in nuR' (nI (m_lo k)) (nI (m_hi k)) else 0) = 0 at hne
    have hlt : j0 < i' := by
      rcases Nat.lt_or_ge j0 i' with z | z
      · exact z
      · rw [if_neg (by omega)] at hne; exact absurd rfl hne
    rw [if_pos hlt] at hne
    obtain ⟨b1, b2⟩ := m_in_p hne
    rcases e4 with ⟨a, -, -⟩ | ⟨-, a2, w, a3, a4, -⟩
    · exact absurd a (by omega)
    · rcases hk with e | e
      · subst e
        rw [hkd2]
        obtain ⟨p1, p2, q, p3, p4⟩ := hp.2 rfl
        refine ⟨?_, Or.inr (Or.inr (Or.inr ⟨p1, rfl, p2, a2, ⟨w, a3, ?_, a4⟩, q, p3, p4⟩)), hnot⟩
        · unfold m_pw
          dsimp only
          rw [if_pos rfl, a2, if_pos (show (5000 : Int32) ≤ nuR' from b1)]
          decide
        · rw [a3] at b1
          exact nI_len (a := 5000) (b := w) (by omega) (by have : m_hi 2 = 11000 := rfl; omega) b1
      · subst e
        rw [hkd3]
        refine ⟨?_, Or.inr (Or.inr (Or.inl ⟨hp.1 rfl, rfl, a2, w, a3, a4⟩)), hnot⟩
        unfold m_pw
        dsimp only
        rw [if_neg (by decide), if_pos rfl, a2, if_pos (show (0 : Int32) ≤ nuR' from b1)]
        decide
  · show m_pw (m_run tx i').1 (m_run tx i').2.2 = 0 ∧ (i' < n → ¬ m_ac tx i')
    rw [e5]
    change (if j0 < i' then m_in nuR' (nI (m_lo k)) (nI (m_hi k)) else 0) = 0 at he
    have hpw : m_pw (m_kd k j0 i') nuC' = 0 := by
      rcases e4 with ⟨-, a, -⟩ | ⟨a1, a2, w, a3, a4, -⟩
      · rw [a]
        rcases hk with e | e
        · subst e; rw [hkd2]; decide +kernel
        · subst e; rw [hkd3]; decide +kernel
      · rw [if_pos a1] at he
        have hw : w < 2 ^ 31 := by
          have : m_hi k ≤ 50000 := by rcases hk with e | e <;> subst e <;> decide
          omega
        have hhi : m_hi k < 2 ^ 31 := by rcases hk with e | e <;> subst e <;> decide
        have hb : nuR' < nI (m_lo k) := by
          rcases m_in_0 he with z | z
          · exact z
          · rw [a3] at z
            exact absurd z (nI_nlt a4 hhi)
        rw [a2]
        rcases hk with e | e
        · subst e
          have hb' : nuR' < 5000 := hb
          unfold m_pw
          rw [hkd2, if_pos rfl, if_neg (Int32.not_le.mpr hb')]
        · subst e
          rw [a3] at hb
          exact absurd hb (nI_nlt (a := w) (b := 0) (by omega) (by omega))
    refine ⟨hpw, fun a => ?_⟩
    by_cases b : tx i' = 59
    · intro c
      unfold m_ac at c
      rw [e5, b] at c
      unfold m_rso at c
      rw [if_pos rfl] at c
      exact c hpw
    · exact hnot a b
theorem m_sg_at {tx : Nat → Int32} {n i : Nat} {x : Int32} (h : m_sgM tx n i = x) (hx : ¬ x = 0) : i < n ∧ tx i = x := by
  have hlt := m_sg_lt h hx
  rw [m_sgM, if_pos hlt] at h
  exact ⟨hlt, h⟩
theorem m_PT_one {tx : Nat → Int32} {n j : Nat} {mi miR nuR x p part : Int32} (hr : m_run tx j = (0, mi, -1)) (hlt : j < n) (et : tx j = x) (hx : ¬ x = 59) (h1 : m_rsp 0 (-1) x = p) (h2 : m_rsn 0 (-1) x = -1) (h3 : ¬ m_rso 0 (-1) x = 0) (h4 : ¬ m_pw p (-1) = 0) (h5 : ∀ c, ¬ c = 59 → m_rso p (-1) c = 0) (hm : m_mt (p, mi, -1) part miR nuR) : m_PT tx n j (1, j + 1, part, miR, nuR) := by
  have hr' : m_run tx (j + 1) = (p, mi, -1) := by
    show m_rs (m_run tx j) (tx j) = _
    rw [hr, et]
    show (m_rsp 0 (-1) x, m_rsm 0 mi (-1) x, m_rsn 0 (-1) x) = _
    rw [h1, h2, m_rsm, if_neg hx, if_neg (by decide)]
  refine ⟨Nat.le_succ _, hlt, fun q a b => ?_, fun _ => ?_, fun h => absurd h (show ¬ (1 : Int32) = 0 by decide)⟩
  · have e : q = j := by
      have : q < j + 1 := b
      omega
    rw [e]
    refine ⟨?_, by rw [et]; exact hx⟩
    unfold m_ac
    rw [hr, et]
    exact h3
  · show ¬ m_pw (m_run tx (j + 1)).1 (m_run tx (j + 1)).2.2 = 0 ∧ m_mt (m_run tx (j + 1)) part miR nuR ∧ (j + 1 < n → ¬ tx (j + 1) = 59 → ¬ m_ac tx (j + 1))
    rw [hr']
    refine ⟨h4, hm, fun _ b c => ?_⟩
    unfold m_ac at c
    rw [hr'] at c
    exact c (h5 _ b)
theorem m_rso_45 {p : Int32} (hp : p = 4 ∨ p = 5) : ∀ c, ¬ c = 59 → m_rso p (-1) c = 0 := by
  intro c hc
  unfold m_rso
  rcases hp with e | e <;> subst e <;> rw [if_neg hc, if_neg (by decide), if_neg (by decide), if_neg (by decide), if_neg (by decide)]
theorem m_lo1 : nI (m_lo 1) = 1 := by decide +kernel
theorem m_lo2 : nI (m_lo 2) = 5000 := by decide +kernel
theorem m_lo3 : nI (m_lo 3) = 0 := by decide +kernel
theorem m_hi1 : nI (m_hi 1) = 120 := by decide +kernel
theorem m_hi2 : nI (m_hi 2) = 11000 := by decide +kernel
theorem m_hi3 : nI (m_hi 3) = 50000 := by decide +kernel
set_option maxHeartbeats 4000000 in
theorem m_rp_PT {tx : Nat → Int32} {n j : Nat} {mi : Int32} (hn : n ≤ 60) (hj : j ≤ n) (hr : m_run tx j = (0, mi, -1)) (miR nuR : Int32) : m_PT tx n j (m_rp tx n j miR nuR) := by
  unfold m_rp
  by_cases c1 : m_sgM tx n j = 115
  · obtain ⟨hlt, et⟩ := m_sg_at c1 (by decide)
    rw [if_pos c1]
    exact m_PT_one hr hlt et (by decide) (p := 4) (by decide +kernel) (by decide +kernel) (by decide +kernel) (by decide +kernel) (m_rso_45 (Or.inl rfl)) (Or.inl ⟨c1, rfl⟩)
  · rw [if_neg c1]
    by_cases c2 : m_sgM tx n j = 109
    · obtain ⟨hlt, et⟩ := m_sg_at c2 (by decide)
      rw [if_pos c2]
      exact m_PT_one hr hlt et (by decide) (p := 5) (by decide +kernel) (by decide +kernel) (by decide +kernel) (by decide +kernel) (m_rso_45 (Or.inr rfl)) (Or.inr (Or.inl ⟨c2, rfl⟩))
    · rw [if_neg c2]
      by_cases c3 : m_sgM tx n j = 99
      · obtain ⟨hlt, et⟩ := m_sg_at c3 (by decide)
        rw [if_pos c3]
        have hr' : m_run tx (j + 1) = (m_kd 3 (j + 1) (j + 1), mi, -1) := by
          show m_rs (m_run tx j) (tx j) = (3, mi, -1)
          rw [hr, et]
          show (m_rsp 0 (-1) 99, m_rsm 0 mi (-1) 99, m_rsn 0 (-1) 99) = _
          rw [show m_rsp 0 (-1) 99 = 3 from by decide +kernel, show m_rsn 0 (-1) 99 = -1 from by decide +kernel, m_rsm, if_neg (by decide), if_neg (by decide)]
        have := m_PT_num (j := j) (mr := miR) (part := m_sgM tx n j) (Or.inr rfl) hn hlt (Nat.le_succ j) hr' (fun q a b => by
          have e : q = j := by omega
          rw [e]
          refine ⟨?_, by rw [et]; decide⟩
          unfold m_ac
          rw [hr, et]
          show ¬ m_rso 0 (-1) 99 = 0
          decide +kernel) ⟨fun _ => c3, fun h => absurd h (by decide)⟩
        rw [m_lo3, m_hi3] at this
        exact this
      · rw [if_neg c3]
        have hk0 : m_kd 1 j j = 0 := by unfold m_kd; rw [if_neg (by decide), if_neg (by decide), if_pos rfl]
        obtain ⟨i', nuC', nuR', e1, e2, e3, e4, e5, e6, e7⟩ := m_rnR_at (k := 1) (mi := mi) (Or.inl rfl) hn hj (by rw [hr, hk0])
        have eV := m_rnV_at e1
        rw [m_lo1, m_hi1] at e1 eV e7
        rw [eV, e1]
        dsimp only
        by_cases lt : j < i'
        · have hk1 : m_kd 1 j i' = 1 := by unfold m_kd; rw [if_neg (by decide), if_neg (by decide), if_neg (by omega)]
          rw [hk1] at e5
          rcases e4 with ⟨a, -, -⟩ | ⟨-, a2, w, a3, a4, a5⟩
          · exact absurd a (by omega)
          · have hw1 : 1 ≤ w := by
              rcases a5 with z | z
              · exact z
              · exact absurd z (by decide)
            have hw2 : w ≤ 120 := a4
            have hin : m_in nuR' 1 120 = 1 := m_in_y (by rw [a3]; exact ⟨nI_le (a := 1) hw1 (by omega), nI_le (b := 120) hw2 (by decide)⟩)
            rw [if_pos lt, if_neg (by rw [hin]; decide)]
            by_cases c62 : m_sgM tx n i' = 62
            · obtain ⟨hlt, et⟩ := m_sg_at c62 (by decide)
              rw [if_pos c62]
              have hac62 : m_ac tx i' := by
                unfold m_ac
                rw [e5, et]
                show ¬ m_rso 1 nuC' 62 = 0
                unfold m_rso
                rw [if_neg (by decide), if_neg (by decide), if_pos rfl, if_pos rfl]
                decide
              have hr' : m_run tx (i' + 1) = (m_kd 2 (i' + 1) (i' + 1), nuR', -1) := by
                show m_rs (m_run tx i') (tx i') = (2, nuR', -1)
                rw [e5, et, a2]
                show (m_rsp 1 nuR' 62, m_rsm 1 mi nuR' 62, m_rsn 1 nuR' 62) = _
                unfold m_rsp m_rsm m_rsn
                rw [if_neg (by decide), if_neg (by decide), if_pos rfl, if_pos rfl, if_neg (by decide), if_pos rfl, if_pos rfl, if_neg (by decide), if_neg (by decide), if_pos rfl, if_pos rfl]
              have := m_PT_num (j := j) (mr := nuR') (part := 0) (Or.inl rfl) hn hlt (by omega) hr' (fun q a b => by
                rcases Nat.lt_or_ge q i' with z | z
                · exact e6 q a z
                · have e : q = i' := by omega
                  rw [e]
                  exact ⟨hac62, by rw [et]; decide⟩) ⟨fun h => absurd h (by decide), fun _ => ⟨rfl, rfl, w, a3, hw1, hw2⟩⟩
              rw [m_lo2, m_hi2] at this
              exact this
            · rw [if_neg c62]
              refine ⟨by show j ≤ i'; omega, e3, e6, fun h => absurd rfl h, fun _ => ?_⟩
              show m_pw (m_run tx i').1 (m_run tx i').2.2 = 0 ∧ (i' < n → ¬ m_ac tx i')
              rw [e5]
              have hpw : m_pw 1 nuC' = 0 := by
                unfold m_pw
                rw [if_neg (by decide), if_neg (by decide), if_neg (by decide), if_neg (by decide)]
              refine ⟨hpw, fun a c => ?_⟩
              unfold m_ac at c
              rw [e5] at c
              change ¬ m_rso 1 nuC' (tx i') = 0 at c
              have h62 : ¬ tx i' = 62 := fun z => c62 (by rw [m_sgM, if_pos a]; exact z)
              unfold m_rso at c
              by_cases b : tx i' = 59
              · rw [if_pos b] at c
                exact c hpw
              · rw [if_neg b, if_neg (by decide), if_pos rfl, if_neg h62] at c
                exact e7 ⟨a, c⟩
        · have ei : i' = j := by omega
          subst ei
          rw [hk0] at e5
          rw [if_neg lt, if_pos rfl]
          have en : nuC' = -1 := by
            have h1 := congrArg (fun r : m_R => r.2.2) (e5.symm.trans hr)
            exact h1
          refine ⟨Nat.le_refl _, e3, e6, fun h => absurd rfl h, fun _ => ?_⟩
          show m_pw (m_run tx i').1 (m_run tx i').2.2 = 0 ∧ (i' < n → ¬ m_ac tx i')
          rw [hr]
          have hpw : m_pw 0 (-1) = 0 := by decide +kernel
          refine ⟨hpw, fun a c => ?_⟩
          unfold m_ac at c
          rw [hr] at c
          change ¬ m_rso 0 (-1) (tx i') = 0 at c
          have es : m_sgM tx n i' = tx i' := if_pos a
          rw [es] at c1 c2 c3
          unfold m_rso at c
          by_cases b : tx i' = 59
          · rw [if_pos b] at c
            exact c hpw
          · rw [if_neg b, if_pos rfl, if_neg c3, if_neg c2, if_neg c1] at c
            rw [en] at e7
            exact e7 ⟨a, c⟩
theorem m_fel_at {tx : Nat → Int32} {n i : Nat} (h : ∀ k, k < i → m_ac tx k) (hi : i ≤ n) (he : i < n → ¬ m_ac tx i) : ∀ m i0, i0 + m = n → i0 ≤ i → m_fel tx m i0 = i
  | 0, i0, h1, h2 => by
    rw [m_fel]
    omega
  | m + 1, i0, h1, h2 => by
    rw [m_fel]
    rcases Nat.lt_or_ge i0 i with z | z
    · rw [if_neg (h i0 z)]
      exact m_fel_at h hi he m (i0 + 1) (by omega) z
    · have e : i0 = i := by omega
      subst e
      have := Classical.not_not.mp (he (by omega))
      rw [if_pos this]
theorem m_fe_at {tx : Nat → Int32} {n i : Nat} (h : ∀ k, k < i → m_ac tx k) (hi : i ≤ n) (he : i < n → ¬ m_ac tx i) : m_fe tx n = i := m_fel_at h hi he n 0 (by omega) (by omega)
/-- behind a part a ';' : the class begins anew -/
theorem m_run_sep {tx : Nat → Int32} {p : Nat} (ht : tx p = 59) (hp : ¬ m_pw (m_run tx p).1 (m_run tx p).2.2 = 0) : m_run tx (p + 1) = (0, (m_run tx p).2.1, -1) ∧ m_ac tx p := by
  constructor
  · show m_rs (m_run tx p) (tx p) = _
    rw [ht]
    unfold m_rs m_rsp m_rsm m_rsn
    rw [if_pos rfl, if_pos rfl, if_pos rfl, if_neg hp, if_neg hp]
  · unfold m_ac m_rso
    rw [ht, if_pos rfl]
    exact hp
theorem m_itt_eq {tx : Nat → Int32} {n : Nat} (hn : n ≤ 60) : ∀ (f j : Nat) (pt mi miR nuR : Int32), 60 < j + f → j ≤ n → m_run tx j = (0, mi, -1) → (∀ k, k < j → m_ac tx k) → m_fe tx n = (m_itt tx n f j pt miR nuR).2.1 ∧ (¬ (m_itt tx n f j pt miR nuR).1 = 0 ↔ m_whole tx n)
  | 0, j, _, _, _, _, h1, h2, _, _ => absurd h1 (by omega)
  | f + 1, j, pt, mi, miR, nuR, h1, h2, hr, hb => by
    obtain ⟨p1, p2, p3, p4, p5⟩ := m_rp_PT hn h2 hr miR nuR
    have hall : ∀ k, k < (m_rp tx n j miR nuR).2.1 → m_ac tx k := fun k hk => by
      rcases Nat.lt_or_ge k j with z | z
      · exact hb k z
      · exact (p3 k z hk).1
    rw [m_itt]
    by_cases c : (m_rp tx n j miR nuR).1 = 0
    · rw [if_pos c]
      obtain ⟨a1, a2⟩ := p5 c
      have hf := m_fe_at hall p2 a2
      refine ⟨hf, fun h => absurd c h, fun h => ?_⟩
      have e := h.1
      rw [hf] at e
      rw [e] at a1
      exact absurd a1 h.2
    · rw [if_neg c]
      obtain ⟨a1, a2, a3⟩ := p4 c
      by_cases d : (m_rp tx n j miR nuR).2.1 = n
      · rw [if_pos d]
        have hf := m_fe_at hall p2 (fun z => absurd z (by omega))
        refine ⟨hf, fun _ => ⟨by rw [hf]; exact d, ?_⟩, fun _ => c⟩
        rw [d] at a1
        exact a1
      · rw [if_neg d]
        by_cases s : m_sgM tx n (m_rp tx n j miR nuR).2.1 = 59
        · obtain ⟨hlt, et⟩ := m_sg_at s (by decide)
          obtain ⟨b1, b2⟩ := m_run_sep et a1
          rw [if_pos s]
          exact m_itt_eq hn f _ _ _ _ _ (by omega) hlt b1 (fun k hk => by
            rcases Nat.lt_or_ge k (m_rp tx n j miR nuR).2.1 with z | z
            · exact hall k z
            · rw [show k = (m_rp tx n j miR nuR).2.1 by omega]; exact b2)
        · rw [if_neg s]
          have hne : ¬ tx (m_rp tx n j miR nuR).2.1 = 59 := fun z => s (by rw [m_sgM, if_pos (by omega)]; exact z)
          have hf := m_fe_at hall p2 (fun z => a3 z hne)
          refine ⟨hf, fun h => absurd rfl h, fun h => ?_⟩
          have e := h.1
          rw [hf] at e
          exact absurd e d
theorem m_IT_eq {tx : Nat → Int32} {n : Nat} (hn : n ≤ 60) (pt mi nu : Int32) : m_fe tx n = (m_IT tx n pt mi nu).2.1 ∧ (¬ (m_IT tx n pt mi nu).1 = 0 ↔ m_whole tx n) := m_itt_eq hn 61 0 pt 0 mi nu (by omega) (by omega) rfl (fun k hk => absurd hk (by omega))
/-! what the parts do -/
theorem m_do_eq {sv g : Nat → Int32} (h : ∀ i, i < 116 → sv i = g i) (hg : z_inv g) {r : m_R} {part mi nu : Int32} (hm : m_mt r part mi nu) :
    (∀ i, i < 116 → m_doM sv part mi nu i = m_exC g r.1 r.2.1 r.2.2 i) ∧ z_inv (m_exC g r.1 r.2.1 r.2.2) ∧ ∀ x, 116 ≤ x → m_doM sv part mi nu x = sv x := by
  unfold m_doM m_exC
  rcases hm with ⟨a, b⟩ | ⟨a, b⟩ | ⟨a, b, c, w, hw, hw2⟩ | ⟨a, b, c, d, ⟨w, hw, hw1, hw2⟩, q, hq, hq1, hq2⟩
  · rw [a, b, if_neg (by decide), if_neg (by decide), if_pos rfl, if_pos rfl, h 2 (by decide)]
    have hne : ¬ g 2 = (if g 2 = 0 then 1 else 0) := by
      rcases hg.1.2.2.1 with z | z
      · rw [z, if_pos rfl]; decide
      · rw [z, if_neg (by decide)]; decide
    exact ⟨fun i hi => m_sw_eq h (m_on01 g) hne hi, z_inv_sw hg (m_on01 g), fun x hx => m_swA_hi hx⟩
  · rw [a, b, if_neg (by decide), if_pos rfl, if_neg (by decide), if_pos rfl, h 75 (by decide)]
    exact ⟨fun i hi => m_mk_eq h hg.1 hi, z_inv_mk hg, fun x hx => m_mkA_hi hg.1.2.1.2 hx⟩
  · have ha : -100000 ≤ nu.toInt ∧ nu.toInt ≤ 100000 := by rw [hw, nI_toInt (by omega)]; omega
    rw [a, b, if_pos rfl, if_neg (by decide), if_neg (by decide), if_neg (by decide), if_pos rfl, c]
    exact ⟨fun i hi => m_cal_eq h hg ha hi, z_inv_cal hg ha, fun x hx => m_caA_hi hx⟩
  · rw [a, b, if_neg (by decide), if_neg (by decide), if_neg (by decide), if_neg (by decide), if_neg (by decide), if_pos rfl, c, d]
    have en : m_n mi = q := by rw [hq, m_n_nI (by omega)]
    rw [en]
    obtain ⟨t1, t2⟩ := m_trip_eq (sv := sv) (b := 0) (fun i hi => by rw [Nat.zero_add]; exact h i hi) hg hq hq1 hq2 hw ⟨hw1, hw2⟩ q (Nat.le_refl _)
    refine ⟨fun i hi => ?_, t1, fun x hx => ?_⟩
    · have := t2 i hi
      rw [Nat.zero_add] at this
      exact this
    · refine m_trA_out (b := 0) (m := m_n (g 14)) ?_ hg.1.1.2 (Or.inr (by omega)) q
      show sv 14 = _
      rw [h 14 (by decide)]
      exact hg.1.1.1
theorem m_goC_span {g tx : Nat → Int32} {j : Nat} : ∀ m, (∀ q, j ≤ q → q < j + m → ¬ tx q = 59) → m_goC g tx (j + m) = m_goC g tx j
  | 0, _ => rfl
  | m + 1, h => by
    rw [show j + (m + 1) = j + m + 1 from rfl, m_goC, if_neg (h (j + m) (by omega) (by omega))]
    exact m_goC_span m (fun q a b => h q a (by omega))
theorem m_go_0 {tx : Nat → Int32} {n : Nat} {pt mi nu : Int32} {sv : Nat → Int32} : ∀ f, (m_goM tx n f n pt mi nu sv).2 = sv
  | 0 => rfl
  | f + 1 => by
    have s0 : m_sgM tx n n = 0 := if_neg (by omega)
    have hle := m_rnR_le (tx := tx) (n := n) (i := n) (least := 1) (most := 120) (Nat.le_refl _)
    have hV : m_rnV tx n n 1 120 = 0 := by
      unfold m_rnV
      rw [if_neg (by omega)]
    have hr : (m_rp tx n n mi nu).1 = 0 := by
      unfold m_rp
      rw [s0, if_neg (by decide), if_neg (by decide), if_neg (by decide), if_pos hV]
    rw [m_goM, if_pos hr]
theorem m_go_eq {tx g sv0 : Nat → Int32} {n : Nat} (hn : n ≤ 60) (hw : m_whole tx n) : ∀ (f j : Nat) (pt mi miR nuR : Int32) (sv : Nat → Int32), 60 < j + f → j ≤ n → m_run tx j = (0, mi, -1) → (∀ k, k < j → m_ac tx k) → (∀ i, i < 116 → sv i = m_goC g tx j i) → z_inv (m_goC g tx j) → (∀ x, 116 ≤ x → sv x = sv0 x) →
    (∀ i, i < 116 → (m_goM tx n f j pt miR nuR sv).2 i = m_endC g tx n i) ∧ z_inv (m_endC g tx n) ∧ ∀ x, 116 ≤ x → (m_goM tx n f j pt miR nuR sv).2 x = sv0 x
  | 0, j, _, _, _, _, _, h1, h2, _, _, _, _, _ => absurd h1 (by omega)
  | f + 1, j, pt, mi, miR, nuR, sv, h1, h2, hr, hb, hs, hg, hx => by
    obtain ⟨p1, p2, p3, p4, p5⟩ := m_rp_PT hn h2 hr miR nuR
    have hall : ∀ k, k < (m_rp tx n j miR nuR).2.1 → m_ac tx k := fun k hk => by
      rcases Nat.lt_or_ge k j with z | z
      · exact hb k z
      · exact (p3 k z hk).1
    have hspan : m_goC g tx (m_rp tx n j miR nuR).2.1 = m_goC g tx j := by
      have := m_goC_span (g := g) (tx := tx) (j := j) ((m_rp tx n j miR nuR).2.1 - j) (fun q a b => (p3 q a (by omega)).2)
      rw [show j + ((m_rp tx n j miR nuR).2.1 - j) = (m_rp tx n j miR nuR).2.1 by omega] at this
      exact this
    have hfe : ∀ i, (∀ k, k < i → m_ac tx k) → i ≤ n → (i < n → ¬ m_ac tx i) → i = n := fun i a b c => by
      have := m_fe_at a b c
      rw [hw.1] at this
      exact this.symm
    rw [m_goM]
    by_cases c : (m_rp tx n j miR nuR).1 = 0
    · obtain ⟨a1, a2⟩ := p5 c
      have e := hfe _ hall p2 a2
      rw [e] at a1
      exact absurd a1 hw.2
    · rw [if_neg c]
      obtain ⟨a1, a2, a3⟩ := p4 c
      obtain ⟨d1, d2, d3⟩ := m_do_eq hs hg a2
      by_cases d : (m_rp tx n j miR nuR).2.1 = n
      · have hs0 : ¬ m_sgM tx n (m_rp tx n j miR nuR).2.1 = 59 := by
          rw [d, m_sgM, if_neg (by omega)]
          decide
        rw [m_tkN_n hs0, d, m_go_0]
        rw [← hspan, d] at d1 d2
        exact ⟨d1, d2, fun x hx2 => by rw [d3 x hx2]; exact hx x hx2⟩
      · have ht : tx (m_rp tx n j miR nuR).2.1 = 59 := by
          rcases Classical.em (tx (m_rp tx n j miR nuR).2.1 = 59) with z | z
          · exact z
          · exact absurd (hfe _ hall p2 (fun y => a3 y z)) d
        have hsg : m_sgM tx n (m_rp tx n j miR nuR).2.1 = 59 := by rw [m_sgM, if_pos (by omega)]; exact ht
        obtain ⟨b1, b2⟩ := m_run_sep ht a1
        have hgo : m_goC g tx ((m_rp tx n j miR nuR).2.1 + 1) = m_exC (m_goC g tx j) (m_run tx (m_rp tx n j miR nuR).2.1).1 (m_run tx (m_rp tx n j miR nuR).2.1).2.1 (m_run tx (m_rp tx n j miR nuR).2.1).2.2 := by
          rw [m_goC, if_pos ht, hspan]
        rw [m_tkN_y hsg]
        refine m_go_eq hn hw f _ _ _ _ _ _ (by omega) (by omega) b1 (fun k hk => ?_) (fun i hi => by rw [hgo]; exact d1 i hi) (by rw [hgo]; exact d2) (fun x hx2 => by rw [d3 x hx2]; exact hx x hx2)
        rcases Nat.lt_or_ge k (m_rp tx n j miR nuR).2.1 with z | z
        · exact hall k z
        · rw [show k = (m_rp tx n j miR nuR).2.1 by omega]; exact b2
