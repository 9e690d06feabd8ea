/-! plain facts of ints (out of laws/NUMBERS and laws/COUNTS) -/
theorem fa_lt (a b : Int32) : a < b ↔ a.toInt < b.toInt := Int32.lt_iff_toInt_lt
theorem fa_le (a b : Int32) : a ≤ b ↔ a.toInt ≤ b.toInt := Int32.le_iff_toInt_le
theorem fa_eq (a b : Int32) : a = b ↔ a.toInt = b.toInt := Int32.toInt_inj.symm
theorem fb_rng (x : Int32) : -2147483648 ≤ x.toInt ∧ x.toInt < 2147483648 := by
  have h1 := Int32.le_toInt x
  have h2 := Int32.toInt_lt x
  omega
theorem fb_bmod {z : Int} (h1 : -2147483648 ≤ z) (h2 : z < 2147483648) : z.bmod (2 ^ 32) = z := by
  rw [Int.bmod_eq_of_le (by omega) (by omega)]
theorem fb_addI {x y : Int32} (h1 : -2147483648 ≤ x.toInt + y.toInt) (h2 : x.toInt + y.toInt < 2147483648) : (x + y).toInt = x.toInt + y.toInt := by
  rw [Int32.toInt_add, fb_bmod h1 h2]
theorem fb_subI {x y : Int32} (h1 : -2147483648 ≤ x.toInt - y.toInt) (h2 : x.toInt - y.toInt < 2147483648) : (x - y).toInt = x.toInt - y.toInt := by
  rw [Int32.toInt_sub, fb_bmod h1 h2]
theorem fb_mulI {x y : Int32} (h1 : -2147483648 ≤ x.toInt * y.toInt) (h2 : x.toInt * y.toInt < 2147483648) : (x * y).toInt = x.toInt * y.toInt := by
  rw [Int32.toInt_mul, fb_bmod h1 h2]
theorem fb_negI {x : Int32} (h : x.toInt ≠ -2147483648) : (-x).toInt = -x.toInt := by
  have := fb_rng x
  rw [Int32.toInt_neg, fb_bmod (by omega) (by omega)]
theorem fb_ofI {z : Int} (h1 : -2147483648 ≤ z) (h2 : z < 2147483648) : (Int32.ofInt z).toInt = z := by
  rw [Int32.toInt_ofInt, fb_bmod h1 h2]
/-- a quotient by a number that isn't -1 -/
theorem y_divI {x y : Int32} (h : y ≠ -1) : (x / y).toInt = x.toInt.tdiv y.toInt := Int32.toInt_div_of_ne_right x y h
/-! what pressures and altitudes have to do with each other -/
def m_std (p : Int32) : Int32 := if 10132 - p < 0 then (10132 - p) * 83 / 10 else (10132 - p) * (83 + (10132 - p) / 250) / 10
def m_abs (v : Int32) : Int32 := if v < 0 then -v else v
/-- the same over whole numbers -/
def m_stdN (p : Nat) : Int := if 10132 < p then -(((p - 10132) * 83 / 10 : Nat) : Int) else (((10132 - p) * (83 + (10132 - p) / 250) / 10 : Nat) : Int)
theorem m_std_toInt {p : Nat} (h : p ≤ 11000) : (m_std (nI p)).toInt = m_stdN p := by
  have hp : (nI p).toInt = (p : Int) := nI_toInt (by omega)
  have e1 : (10132 - nI p : Int32).toInt = 10132 - (p : Int) := by
    rw [fb_subI] <;> rw [hp] <;> simp <;> omega
  unfold m_std m_stdN
  by_cases hc : 10132 < p
  · have h0 : (10132 - nI p : Int32) < 0 := by rw [fa_lt, e1]; simp; omega
    have e2 : ((10132 - nI p : Int32) * 83).toInt = (10132 - (p : Int)) * 83 := by
      rw [fb_mulI] <;> rw [e1] <;> simp <;> omega
    rw [if_pos h0, if_pos hc, y_divI (by decide), e2]
    have e3 : (10132 - (p : Int)) * 83 = -(((p - 10132) * 83 : Nat) : Int) := by
      omega
    rw [e3]
    show Int.tdiv (-(((p - 10132) * 83 : Nat) : Int)) 10 = _
    rw [Int.neg_tdiv]
    rfl
  · have h0 : ¬ (10132 - nI p : Int32) < 0 := by rw [fa_lt, e1]; simp; omega
    obtain ⟨d, hd⟩ : ∃ d : Nat, d = 10132 - p := ⟨_, rfl⟩
    have hd2 : d ≤ 10132 := by omega
    have e1' : (10132 - nI p : Int32).toInt = (d : Int) := by rw [e1]; omega
    have e2 : ((10132 - nI p : Int32) / 250).toInt = ((d / 250 : Nat) : Int) := by
      rw [y_divI (by decide), e1']; rfl
    have hq : d / 250 ≤ 40 := by omega
    have e3 : (83 + (10132 - nI p : Int32) / 250).toInt = ((83 + d / 250 : Nat) : Int) := by
      rw [fb_addI] <;> rw [e2] <;> simp <;> omega
    have hm : d * (83 + d / 250) ≤ 10132 * 123 := Nat.mul_le_mul hd2 (by omega)
    have e4 : ((10132 - nI p : Int32) * (83 + (10132 - nI p : Int32) / 250)).toInt = ((d * (83 + d / 250) : Nat) : Int) := by
      obtain ⟨X, hX⟩ : ∃ X, X = d * (83 + d / 250) := ⟨_, rfl⟩
      have hm' : (d : Int) * ((83 + d / 250 : Nat) : Int) = ((X : Nat) : Int) := by rw [hX]; exact (Int.natCast_mul _ _).symm
      rw [← hX] at hm ⊢
      rw [fb_mulI] <;> rw [e1', e3, hm'] <;> omega
    rw [if_neg h0, if_neg hc, y_divI (by decide), e4, ← hd]
    rfl
theorem m_stdN_step {p : Nat} (h : p < 11000) : m_stdN (p + 1) < m_stdN p := by
  unfold m_stdN
  by_cases hc : 10132 < p
  · rw [if_pos (by omega), if_pos hc]; omega
  · by_cases hc2 : p = 10132
    · subst hc2; decide
    · rw [if_neg (by omega), if_neg hc]
      obtain ⟨d, hd⟩ : ∃ d : Nat, 10132 - p = d + 1 := ⟨10131 - p, by omega⟩
      have hd' : 10132 - (p + 1) = d := by omega
      rw [hd, hd']
      have hq : d / 250 ≤ (d + 1) / 250 := Nat.div_le_div_right (by omega)
      have h1 : d * (83 + d / 250) + 83 ≤ (d + 1) * (83 + (d + 1) / 250) := by
        have := Nat.mul_le_mul (Nat.le_refl d) (Nat.add_le_add_left hq 83)
        rw [Nat.add_mul]
        omega
      omega
theorem m_stdN_anti {p q : Nat} (h : p < q) (hq : q ≤ 11000) : m_stdN q < m_stdN p := by
  obtain ⟨k, rfl⟩ : ∃ k, q = p + 1 + k := ⟨q - p - 1, by omega⟩
  clear h
  induction k with
  | zero => exact m_stdN_step (by omega)
  | succ k ih => exact Int.lt_trans (m_stdN_step (p := p + 1 + k) (by omega)) (ih (by omega))
theorem m_stdN_rng {p : Nat} (h1 : 5000 ≤ p) (h2 : p ≤ 11000) : -7204 ≤ m_stdN p ∧ m_stdN p ≤ 52859 := by
  have a : m_stdN 5000 = 52859 := by decide
  have b : m_stdN 11000 = -7204 := by decide
  constructor
  · rcases Nat.lt_or_ge p 11000 with q | q
    · have := m_stdN_anti q (Nat.le_refl _); omega
    · have : p = 11000 := by omega
      rw [this]; omega
  · rcases Nat.lt_or_ge 5000 p with q | q
    · have := m_stdN_anti q h2; omega
    · have : p = 5000 := by omega
      rw [this]; omega
/-- of n pressures from lo on the greatest that is at least so high up -/
def m_down (sa : Int32) (lo : Nat) : Nat → Int32
  | 0 => -1
  | n + 1 => if sa ≤ m_std (nI (lo + n)) then nI (lo + n) else m_down sa lo n
theorem m_down_none {sa : Int32} {lo : Nat} : ∀ {n : Nat}, (∀ k, k < n → ¬ sa ≤ m_std (nI (lo + k))) → m_down sa lo n = -1
  | 0, _ => rfl
  | n + 1, h => by
    rw [m_down, if_neg (h n (by omega))]
    exact m_down_none (fun k hk => h k (by omega))
theorem m_down_some {sa : Int32} {lo j : Nat} (hj : sa ≤ m_std (nI (lo + j))) : ∀ {n : Nat}, j < n → (∀ k, j < k → k < n → ¬ sa ≤ m_std (nI (lo + k))) → m_down sa lo n = nI (lo + j)
  | 0, h, _ => absurd h (by omega)
  | n + 1, h, hn => by
    rw [m_down]
    by_cases e : j = n
    · subst e; rw [if_pos hj]
    · rw [if_neg (hn n (by omega) (by omega))]
      exact m_down_some hj (by omega) (fun k h1 h2 => hn k h1 (by omega))
/-- as the halving finds it -/
theorem m_down_cut {sa : Int32} {L M lo : Nat} (h1 : L ≤ lo) (h2 : lo ≤ M + 1) (hy : ∀ q, L ≤ q → q < lo → sa ≤ m_std (nI q)) (hn : ∀ q, lo ≤ q → q ≤ M → ¬ sa ≤ m_std (nI q)) : m_down sa L (M + 1 - L) = if lo = L then -1 else nI (lo - 1) := by
  by_cases e : lo = L
  · subst e
    rw [if_pos rfl]
    exact m_down_none (fun k hk => hn _ (by omega) (by omega))
  · rw [if_neg e]
    have := m_down_some (sa := sa) (lo := L) (j := lo - 1 - L) (n := M + 1 - L) (hy _ (by omega) (by omega)) (by omega) (fun k h3 h4 => hn _ (by omega) (by omega))
    rw [this]
    congr 1
    omega
/-- the sea setting as the class finds it -/
def m_near (p a : Int32) : Int32 :=
  if m_down (m_std p - a) 9000 1801 = -1 then 9000
  else if 10800 ≤ m_down (m_std p - a) 9000 1801 then 10800
  else if a - (m_std p - m_std (m_down (m_std p - a) 9000 1801)) ≤ m_std p - m_std (m_down (m_std p - a) 9000 1801 + 1) - a then m_down (m_std p - a) 9000 1801
  else m_down (m_std p - a) 9000 1801 + 1

