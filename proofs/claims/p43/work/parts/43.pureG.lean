/-! a share lies between 0 and 1 -/
theorem zg_de {C : Nat} {Q : Int} (h1 : 4503599627370496 ≤ C) (h2 : C < 9007199254740992) (h3 : -1074 ≤ Q) (h4 : Q ≤ 971) :
    FP.Core.decode FP.Core.b64 (UInt64.ofNat (FP.Core.encode FP.Core.b64 (.fin false C Q))).toNat = .fin false C Q := by
  have en : FP.Core.encode FP.Core.b64 (.fin false C Q) = ((Q + 1074).toNat + 1) * 4503599627370496 + (C - 4503599627370496) := by
    unfold FP.Core.encode
    dsimp only
    rw [zd_tails, zd_qmin, if_neg (by omega), zd_as, show Q - -1074 = Q + 1074 by omega]
    simp
  obtain ⟨e, he⟩ : ∃ e, e = (Q + 1074).toNat := ⟨_, rfl⟩
  rw [en, ← he]
  obtain ⟨n, hn⟩ : ∃ n, n = (e + 1) * 4503599627370496 + (C - 4503599627370496) := ⟨_, rfl⟩
  rw [← hn]
  have hn64 : n < 18446744073709551616 := by omega
  have et : (UInt64.ofNat n).toNat = n := by rw [UInt64.toNat_ofNat']; exact Nat.mod_eq_of_lt hn64
  rw [et]
  have eE : FP.Core.fieldE FP.Core.b64 n = e + 1 := by
    unfold FP.Core.fieldE
    rw [zd_tails, zd_exps]
    omega
  have eT : FP.Core.fieldT FP.Core.b64 n = C - 4503599627370496 := by
    unfold FP.Core.fieldT
    rw [zd_tails]
    omega
  have eS : FP.Core.fieldS FP.Core.b64 n = false := by
    unfold FP.Core.fieldS
    rw [zd_tails, zd_exps]
    have : n / 4503599627370496 / 2048 % 2 = 0 := by omega
    rw [this]
    rfl
  unfold FP.Core.decode
  rw [eE, eT, eS, zd_exps, zd_tails, zd_qmin, if_neg (by omega), if_neg (by omega)]
  rw [show 4503599627370496 + (C - 4503599627370496) = C by omega, show ((-1074 : Int) + (((e + 1 : Nat) : Int) - 1)) = Q by omega]
theorem zg_round {s : Bool} {c : Nat} (h0 : c ≠ 0) (hc : c < 2 ^ 32) : FP.Core.roundRatio FP.Core.b64 s c 1 0 = .fin s (c * 2 ^ (52 - c.log2)) ((c.log2 : Int) - 52) ∧ c.log2 ≤ 31 ∧ 4503599627370496 ≤ c * 2 ^ (52 - c.log2) ∧ c * 2 ^ (52 - c.log2) < 9007199254740992 := by
  have hk31 : c.log2 < 32 := (Nat.log2_lt h0).mpr hc
  have h1 : 2 ^ c.log2 ≤ c := Nat.log2_self_le h0
  have h2 : c < 2 ^ (c.log2 + 1) := Nat.lt_log2_self
  obtain ⟨k, hk⟩ : ∃ k, k = c.log2 := ⟨_, rfl⟩
  rw [← hk] at hk31 h1 h2
  have e1 : ((c.log2 : Nat) : Int) - ((Nat.log2 1 : Nat) : Int) = (k : Int) := by
    rw [← hk, show Nat.log2 1 = 0 from by decide +kernel]
    omega
  have hL : FP.Core.leading c 1 = (k : Int) := by
    unfold FP.Core.leading
    dsimp only
    rw [e1, Int.toNat_natCast, show (-(k : Int)).toNat = 0 by omega, if_pos (by omega)]
  have hq : FP.Core.quantum FP.Core.b64 c 1 0 = (k : Int) - 52 := by
    unfold FP.Core.quantum
    rw [hL, zd_qmin, show ((FP.Core.b64.p : Nat) : Int) = 53 from by decide +kernel]
    omega
  have hN1 : 4503599627370496 ≤ c * 2 ^ (52 - k) := by
    have := Nat.mul_le_mul_right (2 ^ (52 - k)) h1
    rw [← Nat.pow_add, show k + (52 - k) = 52 by omega] at this
    omega
  have hN2 : c * 2 ^ (52 - k) < 9007199254740992 := by
    have := Nat.mul_lt_mul_of_pos_right h2 (Nat.two_pow_pos (52 - k))
    rw [← Nat.pow_add, show k + 1 + (52 - k) = 53 by omega] at this
    omega
  rw [← hk]
  refine ⟨?_, by omega, hN1, hN2⟩
  have hu : FP.Core.unitsNum c 0 ((k : Int) - 52) = c * 2 ^ (52 - k) := by
    unfold FP.Core.unitsNum
    rw [show ((0 : Int) - ((k : Int) - 52)).toNat = 52 - k by omega]
  have hv : FP.Core.unitsDen 1 0 ((k : Int) - 52) = 1 := by
    unfold FP.Core.unitsDen
    rw [show ((k : Int) - 52 - 0).toNat = 0 by omega]
  have hn : FP.Core.nearest (c * 2 ^ (52 - k)) 1 = c * 2 ^ (52 - k) := by
    unfold FP.Core.nearest
    rw [Nat.mod_one, if_pos (by decide), Nat.div_one]
  rw [FP.Core.roundRatio, if_neg h0, FP.Core.roundAt, hq, hu, hv, hn, FP.Core.settle, zd_p, if_pos hN2, FP.Core.bound, zd_qmax, if_pos (by omega)]
theorem zg_int {c : Nat} (h0 : c ≠ 0) (hc : c < 2 ^ 31) : FP.Core.decode FP.Core.b64 (FP.i2d (nI c)).toNat = .fin false (c * 2 ^ (52 - c.log2)) ((c.log2 : Int) - 52) := by
  obtain ⟨e, h1, h2, h3⟩ := zg_round (s := false) h0 (by omega)
  have et : (nI c).toInt = (c : Int) := nI_toInt hc
  show FP.Core.decode FP.Core.b64 (UInt64.ofNat (FP.Core.encode FP.Core.b64 (FP.Core.roundRatio FP.Core.b64 (decide ((nI c).toInt < 0)) (nI c).toInt.natAbs 1 0))).toNat = _
  rw [et, show decide ((c : Int) < 0) = false from decide_eq_false (by omega), Int.natAbs_natCast, e]
  exact zg_de h2 h3 (by omega) (by omega)
/-- what a share is, as a datum -/
def zg_sh (C : Nat) (Q : Int) : Prop := 4503599627370496 ≤ C ∧ C < 9007199254740992 ∧ -1074 ≤ Q ∧ Q ≤ -52 ∧ (Q ≤ -53 ∨ C = 4503599627370496)
theorem zg_near {x y : Nat} : x / y ≤ FP.Core.nearest x y ∧ FP.Core.nearest x y ≤ x / y + 1 := by
  unfold FP.Core.nearest
  split
  · omega
  · split
    · omega
    · have : x / y % 2 < 2 := Nat.mod_lt _ (by decide)
      omega
theorem zg_settle {N : Nat} {q : Int} (h1 : 4503599627370496 ≤ N) (h2 : N ≤ 9007199254740992) (h3 : -1074 ≤ q) (h4 : q ≤ -53) : ∃ C Q, FP.Core.settle FP.Core.b64 false N q = .fin false C Q ∧ zg_sh C Q := by
  unfold FP.Core.settle FP.Core.bound
  rw [zd_p, zd_qmax, zd_tails]
  by_cases c : N < 9007199254740992
  · rw [if_pos c, if_pos (by omega)]
    exact ⟨N, q, rfl, h1, c, h3, by omega, Or.inl h4⟩
  · rw [if_neg c, if_pos (by omega)]
    exact ⟨_, q + 1, rfl, Nat.le_refl _, by decide, by omega, by omega, Or.inr rfl⟩
theorem zg_log {A : Nat} (h1 : 4503599627370496 ≤ A) (h2 : A < 9007199254740992) : A.log2 = 52 := by
  have a : A.log2 < 53 := (Nat.log2_lt (by omega)).mpr (by omega)
  have b : 52 ≤ A.log2 := (Nat.le_log2 (by omega)).mpr (by omega)
  omega
theorem zg_quo {A B : Nat} {E : Int} (hA1 : 4503599627370496 ≤ A) (hA2 : A < 9007199254740992) (hB1 : 4503599627370496 ≤ B) (hB2 : B < 9007199254740992) (hE : -31 ≤ E) (hE0 : E ≤ 0) (hAB : E = 0 → A ≤ B) :
    ∃ C Q, FP.Core.roundRatio FP.Core.b64 false A B E = .fin false C Q ∧ zg_sh C Q := by
  have hl : FP.Core.leading A B = if B ≤ A then 0 else -1 := by
    unfold FP.Core.leading
    dsimp only
    rw [zg_log hA1 hA2, zg_log hB1 hB2]
    simp
  rw [FP.Core.roundRatio, if_neg (by omega), FP.Core.roundAt]
  have hq : FP.Core.quantum FP.Core.b64 A B E = (if B ≤ A then 0 else -1) + E - 52 := by
    unfold FP.Core.quantum
    rw [hl, zd_qmin, show ((FP.Core.b64.p : Nat) : Int) = 53 from by decide +kernel]
    split <;> omega
  rw [hq]
  by_cases c : B ≤ A
  · rw [if_pos c]
    have hu : FP.Core.unitsNum A E (0 + E - 52) = A * 4503599627370496 := by
      unfold FP.Core.unitsNum
      rw [show (E - (0 + E - 52)).toNat = 52 by omega]
    have hv : FP.Core.unitsDen B E (0 + E - 52) = B := by
      unfold FP.Core.unitsDen
      rw [show (0 + E - 52 - E).toNat = 0 by omega, Nat.pow_zero, Nat.mul_one]
    rw [hu, hv]
    by_cases e0 : E = 0
    · have hAB' : A = B := by have := hAB e0; omega
      subst hAB'
      have hn : FP.Core.nearest (A * 4503599627370496) A = 4503599627370496 := by
        unfold FP.Core.nearest
        rw [Nat.mul_mod_right, if_pos (by omega), Nat.mul_div_cancel_left _ (by omega)]
      rw [hn, e0]
      unfold FP.Core.settle FP.Core.bound
      rw [zd_p, zd_qmax, if_pos (by decide), if_pos (by decide)]
      exact ⟨_, _, rfl, Nat.le_refl _, by decide, by decide, by decide, Or.inr rfl⟩
    · have hd1 : 4503599627370496 ≤ A * 4503599627370496 / B := by
        rw [Nat.le_div_iff_mul_le (by omega)]
        omega
      have hd2 : A * 4503599627370496 / B < 9007199254740992 := by
        rw [Nat.div_lt_iff_lt_mul (by omega)]
        omega
      have hnr := zg_near (x := A * 4503599627370496) (y := B)
      exact zg_settle (by omega) (by omega) (by omega) (by omega)
  · rw [if_neg c]
    have hu : FP.Core.unitsNum A E (-1 + E - 52) = A * 9007199254740992 := by
      unfold FP.Core.unitsNum
      rw [show (E - (-1 + E - 52)).toNat = 53 by omega]
    have hv : FP.Core.unitsDen B E (-1 + E - 52) = B := by
      unfold FP.Core.unitsDen
      rw [show (-1 + E - 52 - E).toNat = 0 by omega, Nat.pow_zero, Nat.mul_one]
    rw [hu, hv]
    have hd1 : 4503599627370496 ≤ A * 9007199254740992 / B := by
      rw [Nat.le_div_iff_mul_le (by omega)]
      omega
    have hd2 : A * 9007199254740992 / B < 9007199254740992 := by
      rw [Nat.div_lt_iff_lt_mul (by omega)]
      omega
    have hnr := zg_near (x := A * 9007199254740992) (y := B)
    exact zg_settle (by omega) (by omega) (by omega) (by omega)
theorem zg_cle {x y : Int} {op : CmpOp} (h : x ≤ y) : ¬ 0 < Op.cmpValue (some (compare x y)) op := by
  have e : compare x y = (if x < y then Ordering.lt else if x = y then Ordering.eq else Ordering.gt) := rfl
  rw [e]
  by_cases c : x < y
  · rw [if_pos c]; show ¬ (0 : Int32) < -1; decide
  · rw [if_neg c, if_pos (by omega)]; show ¬ (0 : Int32) < 0; decide
theorem zg_cge {x y : Int} {op : CmpOp} (h : y ≤ x) : ¬ Op.cmpValue (some (compare x y)) op < 0 := by
  have e : compare x y = (if x < y then Ordering.lt else if x = y then Ordering.eq else Ordering.gt) := rfl
  rw [e, if_neg (by omega)]
  by_cases c : x = y
  · rw [if_pos c]; show ¬ (0 : Int32) < 0; decide
  · rw [if_neg c]; show ¬ (1 : Int32) < 0; decide
theorem zg_c1 : FP.Core.decode FP.Core.b64 FP.dconst1.toNat = .fin false 4503599627370496 (-52) := by decide +kernel
theorem zg_c0 : FP.Core.decode FP.Core.b64 FP.dconst0.toNat = .fin false 0 (-1074) := by decide +kernel
theorem zg_dat {r : UInt64} {C : Nat} {Q : Int} (h : FP.Core.decode FP.Core.b64 r.toNat = .fin false C Q) (hs : zg_sh C Q) : ¬ Op.cmpValue (FP.dcmp r FP.dconst0) .l < 0 ∧ ¬ 0 < Op.cmpValue (FP.dcmp r FP.dconst1) .g := by
  obtain ⟨h1, h2, h3, h4, h5⟩ := hs
  constructor
  · show ¬ Op.cmpValue (FP.Core.order (FP.Core.decode FP.Core.b64 r.toNat) (FP.Core.decode FP.Core.b64 FP.dconst0.toNat)) .l < 0
    rw [h, zg_c0]
    refine zg_cge ?_
    show (((0 * 2 ^ (-1074 - min Q (-1074)).toNat : Nat)) : Int) ≤ ((C * 2 ^ (Q - min Q (-1074)).toNat : Nat) : Int)
    rw [Nat.zero_mul]
    exact Int.natCast_nonneg _
  · show ¬ 0 < Op.cmpValue (FP.Core.order (FP.Core.decode FP.Core.b64 r.toNat) (FP.Core.decode FP.Core.b64 FP.dconst1.toNat)) .g
    rw [h, zg_c1]
    refine zg_cle ?_
    show ((C * 2 ^ (Q - min Q (-52)).toNat : Nat) : Int) ≤ ((4503599627370496 * 2 ^ (-52 - min Q (-52)).toNat : Nat) : Int)
    rw [show min Q (-52) = Q by omega, show (Q - Q).toNat = 0 by omega, Nat.pow_zero, Nat.mul_one]
    refine Int.ofNat_le.mpr ?_
    obtain ⟨w, hw⟩ : ∃ w, w = (-52 - Q).toNat := ⟨_, rfl⟩
    rw [← hw]
    have hp : 1 ≤ 2 ^ w := Nat.two_pow_pos w
    rcases h5 with h5 | h5
    · obtain ⟨v, rfl⟩ : ∃ v, w = v + 1 := ⟨w - 1, by omega⟩
      rw [Nat.pow_succ]
      have hp : 1 ≤ 2 ^ v := Nat.two_pow_pos v
      omega
    · omega
theorem zg_share {a n : Nat} (h : a ≤ n) (hn : n < 2 ^ 31) (h0 : n ≠ 0) : ¬ Op.cmpValue (FP.dcmp (FP.ddiv (FP.i2d (nI a)) (FP.i2d (nI n))) FP.dconst0) .l < 0 ∧ ¬ 0 < Op.cmpValue (FP.dcmp (FP.ddiv (FP.i2d (nI a)) (FP.i2d (nI n))) FP.dconst1) .g := by
  have eb := zg_int h0 hn
  obtain ⟨-, k1, k2, k3⟩ := zg_round (s := false) h0 (by omega)
  have hB0 : n * 2 ^ (52 - n.log2) ≠ 0 := by omega
  by_cases ha : a = 0
  · subst ha
    have ez : FP.ddiv (FP.i2d (nI 0)) (FP.i2d (nI n)) = 0 := by
      show UInt64.ofNat (FP.Core.encode FP.Core.b64 (FP.Core.quotient FP.Core.b64 (FP.Core.decode FP.Core.b64 (FP.i2d (nI 0)).toNat) (FP.Core.decode FP.Core.b64 (FP.i2d (nI n)).toNat))) = 0
      rw [eb, show FP.Core.decode FP.Core.b64 (FP.i2d (nI 0)).toNat = .fin false 0 (-1074) from by decide +kernel]
      have eq : ∀ (d : Nat) (r : Int), d ≠ 0 → FP.Core.quotient FP.Core.b64 (.fin false 0 (-1074)) (.fin false d r) = .fin false 0 (-1074) := by
        intro d r hd
        show (if d = 0 then _ else FP.Core.roundRatio FP.Core.b64 (false != false) 0 d (-1074 - r)) = _
        rw [if_neg hd, FP.Core.roundRatio, if_pos rfl, zd_qmin]
        rfl
      rw [eq _ _ hB0]
      decide +kernel
    rw [ez]
    constructor <;> decide +kernel
  · have ea := zg_int ha (by omega)
    obtain ⟨-, j1, j2, j3⟩ := zg_round (s := false) ha (by omega)
    have hlog : a.log2 ≤ n.log2 := (Nat.le_log2 h0).mpr (Nat.le_trans (Nat.log2_self_le ha) h)
    obtain ⟨C, Q, e, hs⟩ := zg_quo (E := ((a.log2 : Int) - 52) - ((n.log2 : Int) - 52)) j2 j3 k2 k3 (by omega) (by omega) (fun z => by
      have : a.log2 = n.log2 := by omega
      rw [this]
      exact Nat.mul_le_mul_right _ h)
    refine zg_dat (C := C) (Q := Q) ?_ hs
    show FP.Core.decode FP.Core.b64 (UInt64.ofNat (FP.Core.encode FP.Core.b64 (FP.Core.quotient FP.Core.b64 (FP.Core.decode FP.Core.b64 (FP.i2d (nI a)).toNat) (FP.Core.decode FP.Core.b64 (FP.i2d (nI n)).toNat)))).toNat = _
    rw [ea, eb]
    have eq : ∀ (c d : Nat) (q r : Int), d ≠ 0 → FP.Core.quotient FP.Core.b64 (.fin false c q) (.fin false d r) = FP.Core.roundRatio FP.Core.b64 false c d (q - r) := by
      intro c d q r hd
      show (if d = 0 then _ else FP.Core.roundRatio FP.Core.b64 (false != false) c d (q - r)) = _
      rw [if_neg hd]
      rfl
    rw [eq _ _ _ _ hB0, e]
    exact zg_de hs.1 hs.2.1 hs.2.2.1 (by have := hs.2.2.2.1; omega)
theorem h_sh {T : Nat} {g : Nat → Int32} (hT : T ≤ 5000) (hg : z_g T g) : ¬ Op.cmpValue (FP.dcmp (m_shr (g 7) (g 8)) FP.dconst0) .l < 0 ∧ ¬ 0 < Op.cmpValue (FP.dcmp (m_shr (g 7) (g 8)) FP.dconst1) .g := by
  obtain ⟨-, -, M, a, d, b, c1, c2, c3, c4, c5, c6, c7⟩ := hg
  rw [c3, c4]
  unfold m_shr
  rw [nI_add]
  by_cases z : nI (a + d) = 0
  · rw [if_pos z]
    constructor <;> decide +kernel
  · rw [if_neg z]
    exact zg_share (by omega) (by omega) (fun e => z (by rw [e]; rfl))
