/-! a quotient of whole numbers is a number -/
theorem zd_tails : FP.Core.b64.tails = 4503599627370496 := by decide +kernel
theorem zd_exps : FP.Core.b64.exps = 2048 := by decide +kernel
theorem zd_qmin : FP.Core.b64.qmin = -1074 := by decide +kernel
theorem zd_qmax : FP.Core.b64.qmax = 971 := by decide +kernel
theorem zd_p : 2 ^ FP.Core.b64.p = 9007199254740992 := by decide +kernel
/-- neither a NaN, nor greater than the format bears -/
def zd_ok : FP.Core.Datum → Prop
  | .nan => False
  | .inf _ => True
  | .fin _ c q => c < 9007199254740992 ∧ q ≤ 971
theorem zd_b (s : Bool) : s.toNat = 0 ∨ s.toNat = 1 := by cases s <;> simp
theorem zd_as (s : Bool) (e t : Nat) : FP.Core.assemble FP.Core.b64 s e t = (s.toNat * 2048 + e) * 4503599627370496 + t := by
  unfold FP.Core.assemble
  rw [zd_exps, zd_tails]
theorem zd_enc : ∀ {D : FP.Core.Datum}, zd_ok D → FP.Core.encode FP.Core.b64 D < 18446744073709551616 ∧ FP.Core.encode FP.Core.b64 D % 9223372036854775808 ≤ 9218868437227405312
  | .nan, h => h.elim
  | .inf s, _ => by
    unfold FP.Core.encode
    dsimp only
    rw [zd_as, zd_exps]
    rcases zd_b s with e | e <;> rw [e] <;> omega
  | .fin s c q, h => by
    obtain ⟨h1, h2⟩ := h
    unfold FP.Core.encode
    dsimp only
    rw [zd_tails, zd_qmin]
    by_cases c0 : c < 4503599627370496
    · rw [if_pos c0, zd_as]
      rcases zd_b s with e | e <;> rw [e] <;> omega
    · rw [if_neg c0, zd_as]
      obtain ⟨k, hk⟩ : ∃ k, k = (q - -1074).toNat := ⟨_, rfl⟩
      rw [← hk]
      have hk2 : k ≤ 2045 := by omega
      rcases zd_b s with e | e <;> rw [e] <;> omega
theorem zd_settle (s : Bool) (c : Nat) (q : Int) : zd_ok (FP.Core.settle FP.Core.b64 s c q) := by
  unfold FP.Core.settle FP.Core.bound
  rw [zd_p, zd_qmax, zd_tails]
  split
  · split
    · exact ⟨by assumption, by assumption⟩
    · trivial
  · split
    · exact ⟨by decide, by assumption⟩
    · trivial
theorem zd_ratio (s : Bool) (num den : Nat) (e : Int) : zd_ok (FP.Core.roundRatio FP.Core.b64 s num den e) := by
  unfold FP.Core.roundRatio
  split
  · rw [zd_qmin]
    exact ⟨by decide, by decide⟩
  · exact zd_settle _ _ _
theorem zd_round {s : Bool} {c : Nat} (h0 : c ≠ 0) (hc : c < 2 ^ 32) : ∃ (k N : Nat), k ≤ 31 ∧ 4503599627370496 ≤ N ∧ N < 9007199254740992 ∧ FP.Core.roundRatio FP.Core.b64 s c 1 0 = .fin s N ((k : Int) - 52) := by
  have hk31 : c.log2 < 32 := (Nat.log2_lt h0).mpr hc
  have h1 : 2 ^ c.log2 ≤ c := Nat.log2_self_le h0
  have h2 : c < 2 ^ (c.log2 + 1) := Nat.lt_log2_self
  obtain ⟨k, hk⟩ : ∃ k, k = c.log2 := ⟨_, rfl⟩
  rw [← hk] at hk31 h1 h2
  have e1 : ((c.log2 : Nat) : Int) - ((Nat.log2 1 : Nat) : Int) = (k : Int) := by
    rw [← hk, show Nat.log2 1 = 0 from by decide +kernel]
    omega
  have hL : FP.Core.leading c 1 = (k : Int) := by
    unfold FP.Core.leading
    dsimp only
    rw [e1, Int.toNat_natCast, show (-(k : Int)).toNat = 0 by omega, if_pos (by omega)]
  have hq : FP.Core.quantum FP.Core.b64 c 1 0 = (k : Int) - 52 := by
    unfold FP.Core.quantum
    rw [hL, zd_qmin, show ((FP.Core.b64.p : Nat) : Int) = 53 from by decide +kernel]
    omega
  have hN1 : 4503599627370496 ≤ c * 2 ^ (52 - k) := by
    have := Nat.mul_le_mul_right (2 ^ (52 - k)) h1
    rw [← Nat.pow_add, show k + (52 - k) = 52 by omega] at this
    omega
  have hN2 : c * 2 ^ (52 - k) < 9007199254740992 := by
    have := Nat.mul_lt_mul_of_pos_right h2 (Nat.two_pow_pos (52 - k))
    rw [← Nat.pow_add, show k + 1 + (52 - k) = 53 by omega] at this
    omega
  refine ⟨k, c * 2 ^ (52 - k), by omega, hN1, hN2, ?_⟩
  have hu : FP.Core.unitsNum c 0 ((k : Int) - 52) = c * 2 ^ (52 - k) := by
    unfold FP.Core.unitsNum
    rw [show ((0 : Int) - ((k : Int) - 52)).toNat = 52 - k by omega]
  have hv : FP.Core.unitsDen 1 0 ((k : Int) - 52) = 1 := by
    unfold FP.Core.unitsDen
    rw [show ((k : Int) - 52 - 0).toNat = 0 by omega]
  have hn : FP.Core.nearest (c * 2 ^ (52 - k)) 1 = c * 2 ^ (52 - k) := by
    unfold FP.Core.nearest
    rw [Nat.mod_one, if_pos (by decide), Nat.div_one]
  rw [FP.Core.roundRatio, if_neg h0, FP.Core.roundAt, hq, hu, hv, hn, FP.Core.settle, zd_p, if_pos hN2, FP.Core.bound, zd_qmax, if_pos (by omega)]
theorem zd_int (a : Int32) : ∃ (s : Bool) (c : Nat) (q : Int), FP.Core.decode FP.Core.b64 (FP.i2d a).toNat = .fin s c q ∧ (¬ a = 0 → c ≠ 0) := by
  have hr := fb_rng a
  show ∃ (s : Bool) (c : Nat) (q : Int), FP.Core.decode FP.Core.b64 (UInt64.ofNat (FP.Core.encode FP.Core.b64 (FP.Core.roundRatio FP.Core.b64 (decide (a.toInt < 0)) a.toInt.natAbs 1 0))).toNat = .fin s c q ∧ (¬ a = 0 → c ≠ 0)
  by_cases h0 : a.toInt.natAbs = 0
  · have ht : a.toInt = 0 := by omega
    have ha : a = 0 := Int32.toInt_inj.mp (by rw [ht, k_0I])
    subst ha
    refine ⟨false, 0, -1074, ?_, fun h => absurd rfl h⟩
    decide +kernel
  · obtain ⟨k, N, hk, hN1, hN2, e⟩ := zd_round (s := decide (a.toInt < 0)) h0 (by omega)
    rw [e]
    obtain ⟨s, hs⟩ : ∃ s, s = decide (a.toInt < 0) := ⟨_, rfl⟩
    rw [← hs]
    have en : FP.Core.encode FP.Core.b64 (.fin s N ((k : Int) - 52)) = (s.toNat * 2048 + (k + 1023)) * 4503599627370496 + (N - 4503599627370496) := by
      unfold FP.Core.encode
      dsimp only
      rw [zd_tails, zd_qmin, if_neg (by omega), zd_as, show ((k : Int) - 52 - -1074).toNat + 1 = k + 1023 by omega]
    obtain ⟨n, hn⟩ : ∃ n, n = (s.toNat * 2048 + (k + 1023)) * 4503599627370496 + (N - 4503599627370496) := ⟨_, rfl⟩
    rw [en, ← hn]
    have hn64 : n < 18446744073709551616 := by rcases zd_b s with e | e <;> rw [e] at hn <;> omega
    have et : (UInt64.ofNat n).toNat = n := by rw [UInt64.toNat_ofNat']; exact Nat.mod_eq_of_lt hn64
    rw [et]
    have eE : FP.Core.fieldE FP.Core.b64 n = k + 1023 := by
      unfold FP.Core.fieldE
      rw [zd_tails, zd_exps]
      rcases zd_b s with e | e <;> rw [e] at hn <;> omega
    unfold FP.Core.decode
    rw [eE, zd_exps, if_neg (by omega), if_neg (by omega), zd_tails]
    exact ⟨_, _, _, rfl, fun _ => by omega⟩
theorem zd_dv : z_dv := by
  intro a b hb
  obtain ⟨s, c, q, ea, -⟩ := zd_int a
  obtain ⟨t, d, r, eb, hd⟩ := zd_int b
  show vf_n64 (UInt64.ofNat (FP.Core.encode FP.Core.b64 (FP.Core.quotient FP.Core.b64 (FP.Core.decode FP.Core.b64 (FP.i2d a).toNat) (FP.Core.decode FP.Core.b64 (FP.i2d b).toNat))))
  rw [ea, eb]
  have eq : FP.Core.quotient FP.Core.b64 (.fin s c q) (.fin t d r) = FP.Core.roundRatio FP.Core.b64 (s != t) c d (q - r) := by
    show (if d = 0 then (if c = 0 then FP.Core.Datum.nan else .inf (s != t)) else FP.Core.roundRatio FP.Core.b64 (s != t) c d (q - r)) = _
    rw [if_neg (hd hb)]
  rw [eq]
  obtain ⟨h1, h2⟩ := zd_enc (zd_ratio (s != t) c d (q - r))
  obtain ⟨n, hn⟩ : ∃ n, n = FP.Core.encode FP.Core.b64 (FP.Core.roundRatio FP.Core.b64 (s != t) c d (q - r)) := ⟨_, rfl⟩
  rw [← hn] at h1 h2 ⊢
  unfold vf_n64
  rw [UInt64.le_iff_toNat_le, UInt64.toNat_and, UInt64.toNat_ofNat', Nat.mod_eq_of_lt h1]
  have e1 : (0x7fffffffffffffff : UInt64).toNat = 2 ^ 63 - 1 := by decide +kernel
  have e2 : (0x7ff0000000000000 : UInt64).toNat = 9218868437227405312 := by decide +kernel
  rw [e1, e2, Nat.and_two_pow_sub_one_eq_mod]
  exact h2

