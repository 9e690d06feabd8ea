/-! class and reference alike: the sea setting, the pressure at an altitude, the way, the climb counter -/
theorem k_0I : (0 : Int32).toInt = 0 := by decide
theorem k_9000 : (9000 : Int32) = nI 9000 := by decide +kernel
theorem k_1I : (-1 : Int32).toInt = -1 := by decide
def m_X (P : Nat) (a : Int) (q : Nat) : Int := m_stdN P - m_stdN q - a
def m_ab (z : Int) : Int := if z < 0 then -z else z
theorem m_abs_toInt {x : Int32} (h : -2147483648 < x.toInt) : (m_abs x).toInt = m_ab x.toInt := by
  unfold m_abs m_ab
  by_cases c : x < 0
  · have c' := (fa_lt _ _).mp c
    rw [k_0I] at c'
    rw [if_pos c, if_pos c', fb_negI (by omega)]
  · have c' : ¬ x.toInt < 0 := fun q => c ((fa_lt x 0).mpr (by rw [k_0I]; exact q))
    rw [if_neg c, if_neg c']
theorem m_dif {P q : Nat} (hP : 5000 ≤ P ∧ P ≤ 11000) (hq : 5000 ≤ q ∧ q ≤ 11000) : (m_std (nI P) - m_std (nI q)).toInt = m_stdN P - m_stdN q := by
  have e1 := m_std_toInt hP.2
  have e2 := m_std_toInt hq.2
  have r1 := m_stdN_rng hP.1 hP.2
  have r2 := m_stdN_rng hq.1 hq.2
  rw [fb_subI] <;> rw [e1, e2] <;> omega
theorem m_off {P q : Nat} {a : Int32} (hP : 5000 ≤ P ∧ P ≤ 11000) (hq : 5000 ≤ q ∧ q ≤ 11000) (ha : -100000 ≤ a.toInt ∧ a.toInt ≤ 100000) : (m_std (nI P) - m_std (nI q) - a).toInt = m_X P a.toInt q := by
  have e3 := m_dif hP hq
  have r1 := m_stdN_rng hP.1 hP.2
  have r2 := m_stdN_rng hq.1 hq.2
  show _ = m_stdN P - m_stdN q - a.toInt
  rw [fb_subI] <;> rw [e3] <;> omega
theorem m_X_rng {P q : Nat} {a : Int} (hP : 5000 ≤ P ∧ P ≤ 11000) (hq : 5000 ≤ q ∧ q ≤ 11000) (ha : -100000 ≤ a ∧ a ≤ 100000) : -1000000 ≤ m_X P a q ∧ m_X P a q ≤ 1000000 := by
  have r1 := m_stdN_rng hP.1 hP.2
  have r2 := m_stdN_rng hq.1 hq.2
  unfold m_X
  omega
theorem m_sa {P q : Nat} {a : Int32} (hP : 5000 ≤ P ∧ P ≤ 11000) (hq : 5000 ≤ q ∧ q ≤ 11000) (ha : -100000 ≤ a.toInt ∧ a.toInt ≤ 100000) : m_std (nI P) - a ≤ m_std (nI q) ↔ m_X P a.toInt q ≤ 0 := by
  have e1 := m_std_toInt hP.2
  have e2 := m_std_toInt hq.2
  have r1 := m_stdN_rng hP.1 hP.2
  have e3 : (m_std (nI P) - a).toInt = m_stdN P - a.toInt := by
    rw [fb_subI] <;> rw [e1] <;> omega
  rw [fa_le, e3, e2]
  unfold m_X
  omega
theorem m_X_lt {P : Nat} {a : Int} {q r : Nat} (h : q < r) (hr : r ≤ 11000) : m_X P a q < m_X P a r := by
  have := m_stdN_anti h hr
  unfold m_X
  omega
/-- of f 0 .. f n the first that is the nearest to 0 -/
def m_am (f : Nat → Int) (n c : Nat) : Prop := c ≤ n ∧ (∀ j, j ≤ n → m_ab (f c) ≤ m_ab (f j)) ∧ ∀ j, j < c → m_ab (f c) < m_ab (f j)
theorem m_am_uniq {f : Nat → Int} {n c d : Nat} (h1 : m_am f n c) (h2 : m_am f n d) : c = d := by
  rcases Nat.lt_trichotomy c d with q | q | q
  · have a := h2.2.2 c q
    have b := h1.2.1 d h2.1
    omega
  · exact q
  · have a := h1.2.2 d q
    have b := h2.2.1 c h1.1
    omega
def m_XF (P : Nat) (a : Int) (i : Nat) : Int := m_X P a (9000 + i)
theorem m_down_or {sa : Int32} {lo : Nat} : ∀ n, (m_down sa lo n = -1 ∧ ∀ k, k < n → ¬ sa ≤ m_std (nI (lo + k))) ∨ ∃ j, j < n ∧ m_down sa lo n = nI (lo + j) ∧ sa ≤ m_std (nI (lo + j)) ∧ ∀ k, j < k → k < n → ¬ sa ≤ m_std (nI (lo + k))
  | 0 => Or.inl ⟨rfl, fun k hk => absurd hk (by omega)⟩
  | n + 1 => by
    rw [m_down]
    by_cases c : sa ≤ m_std (nI (lo + n))
    · rw [if_pos c]
      exact Or.inr ⟨n, by omega, rfl, c, fun k h1 h2 => absurd h1 (by omega)⟩
    · rw [if_neg c]
      rcases m_down_or (sa := sa) (lo := lo) n with ⟨e, h⟩ | ⟨j, hj, e, h, h2⟩
      · refine Or.inl ⟨e, fun k hk => ?_⟩
        rcases Nat.lt_or_ge k n with z | z
        · exact h k z
        · rw [show k = n by omega]; exact c
      · refine Or.inr ⟨j, by omega, e, h, fun k h3 h4 => ?_⟩
        rcases Nat.lt_or_ge k n with z | z
        · exact h2 k h3 z
        · rw [show k = n by omega]; exact c
theorem nI_nm1 {n : Nat} (h : n < 2 ^ 31) : ¬ nI n = -1 := by
  intro z
  have := congrArg Int32.toInt z
  rw [nI_toInt h, k_1I] at this
  omega
theorem m_near_am {P : Nat} {a : Int32} (hP : 5000 ≤ P ∧ P ≤ 11000) (ha : -100000 ≤ a.toInt ∧ a.toInt ≤ 100000) : ∃ c, m_am (m_XF P a.toInt) 1800 c ∧ m_near (nI P) a = nI (9000 + c) := by
  have hs : ∀ k, k < 1801 → (m_std (nI P) - a ≤ m_std (nI (9000 + k)) ↔ m_XF P a.toInt k ≤ 0) := fun k hk => m_sa hP (by omega) ha
  have hm : ∀ i j, i < j → j ≤ 1800 → m_XF P a.toInt i < m_XF P a.toInt j := fun i j h1 h2 => m_X_lt (by omega) (by omega)
  rcases m_down_or (sa := m_std (nI P) - a) (lo := 9000) 1801 with ⟨e, hn⟩ | ⟨j, hj, e, hy, hn⟩
  · refine ⟨0, ⟨by omega, fun j hj => ?_, fun j hj => absurd hj (by omega)⟩, ?_⟩
    · have a0 : ¬ m_XF P a.toInt 0 ≤ 0 := fun z => hn 0 (by omega) ((hs 0 (by omega)).mpr z)
      rcases Nat.eq_zero_or_pos j with z | z
      · rw [z]; exact Int.le_refl _
      · have := hm 0 j z hj
        unfold m_ab
        rw [if_neg (by omega), if_neg (by omega)]
        omega
    · rw [m_near, if_pos e]
      rfl
  · have y := (hs j hj).mp hy
    have n1 : ∀ k, j < k → k < 1801 → 0 < m_XF P a.toInt k := fun k h1 h2 => by
      have := mt (hs k h2).mpr (hn k h1 h2)
      omega
    have ne : ¬ nI (9000 + j) = -1 := nI_nm1 (by omega)
    by_cases e8 : j = 1800
    · subst e8
      refine ⟨1800, ⟨by omega, fun i hi => ?_, fun i hi => ?_⟩, ?_⟩
      · rcases Nat.lt_or_ge i 1800 with z | z
        · have := hm i 1800 z (by omega)
          unfold m_ab
          split <;> split <;> omega
        · rw [show i = 1800 by omega]
          exact Int.le_refl _
      · have := hm i 1800 hi (by omega)
        unfold m_ab
        split <;> split <;> omega
      · rw [m_near, e, if_neg ne, if_pos (by decide)]
        rfl
    · have e9 : ¬ (10800 : Int32) ≤ nI (9000 + j) := nI_ge (a := 9000 + j) (b := 10800) (by omega) (by omega)
      have hd := m_dif (q := 9000 + j) hP (by omega)
      have r1 := m_X_rng (q := 9000 + j) hP (by omega) ha
      have r2 := m_X_rng (q := 9000 + j) (a := 0) hP (by omega) (by omega)
      have e1 : (a - (m_std (nI P) - m_std (nI (9000 + j)))).toInt = -(m_XF P a.toInt j) := by
        show _ = -(m_stdN P - m_stdN (9000 + j) - a.toInt)
        unfold m_X at r2
        rw [fb_subI] <;> rw [hd] <;> omega
      have e2 : (m_std (nI P) - m_std (nI (9000 + j) + 1) - a).toInt = m_XF P a.toInt (j + 1) := by
        rw [nI_1]
        exact m_off (q := 9000 + (j + 1)) hP (by omega) ha
      have z1 := n1 (j + 1) (by omega) (by omega)
      have up : ∀ i, j < i → i ≤ 1800 → m_XF P a.toInt (j + 1) ≤ m_XF P a.toInt i := fun i h1 h2 => by
        rcases Nat.lt_or_ge (j + 1) i with w | w
        · exact Int.le_of_lt (hm _ _ w h2)
        · rw [show i = j + 1 by omega]
          exact Int.le_refl _
      by_cases c : a - (m_std (nI P) - m_std (nI (9000 + j))) ≤ m_std (nI P) - m_std (nI (9000 + j) + 1) - a
      · have c' := (fa_le _ _).mp c
        rw [e1, e2] at c'
        refine ⟨j, ⟨by omega, fun i hi => ?_, fun i hi => ?_⟩, ?_⟩
        · rcases Nat.lt_trichotomy i j with z | z | z
          · have := hm i j z (by omega)
            unfold m_ab
            split <;> split <;> omega
          · rw [z]; exact Int.le_refl _
          · have := up i z hi
            unfold m_ab
            split <;> split <;> omega
        · have := hm i j hi (by omega)
          unfold m_ab
          split <;> split <;> omega
        · rw [m_near, e, if_neg ne, if_neg e9, if_pos c]
      · have c' := mt (fa_le _ _).mpr c
        rw [e1, e2] at c'
        refine ⟨j + 1, ⟨by omega, fun i hi => ?_, fun i hi => ?_⟩, ?_⟩
        · rcases Nat.lt_trichotomy i j with z | z | z
          · have := hm i j z (by omega)
            unfold m_ab
            split <;> split <;> omega
          · rw [z]
            unfold m_ab
            split <;> split <;> omega
          · have := up i z hi
            unfold m_ab
            split <;> split <;> omega
        · rcases Nat.lt_or_ge i j with z | z
          · have := hm i j z (by omega)
            unfold m_ab
            split <;> split <;> omega
          · rw [show i = j by omega]
            unfold m_ab
            split <;> split <;> omega
        · rw [m_near, e, if_neg ne, if_neg e9, if_neg c]
          exact nI_1 _
theorem m_near_rg {P : Nat} {a : Int32} (hP : 5000 ≤ P ∧ P ≤ 11000) (ha : -100000 ≤ a.toInt ∧ a.toInt ≤ 100000) : ∃ S : Nat, m_near (nI P) a = nI S ∧ 9000 ≤ S ∧ S ≤ 10800 := by
  obtain ⟨c, h1, h2⟩ := m_near_am hP ha
  have := h1.1
  exact ⟨9000 + c, h2, by omega, by omega⟩
/-! the pressure at an altitude -/
/-! the way -/
theorem m_way_up {A B k n : Nat} (h : A ≤ B) (hB : B ≤ 11000) (hk : k ≤ n) (hn : 1 ≤ n) (hn2 : n ≤ 120) : m_way (nI A) (nI B) (nI k) (nI n) = nI (A + (B - A) * k / n) := by
  have hm : (B - A) * k ≤ 11000 * 120 := Nat.mul_le_mul (by omega) (by omega)
  rw [m_way, if_pos (show (1 : Int32) ≤ nI n from nI_le (a := 1) (b := n) hn (by omega)), pk_sub h, pk_mul, pk_div (by omega) (by omega) (by omega), nI_add]
theorem m_way_dn {A B k n : Nat} (h : B < A) (hA : A ≤ 11000) (hk : k ≤ n) (hn : 1 ≤ n) (hn2 : n ≤ 120) : m_way (nI A) (nI B) (nI k) (nI n) = nI (A - (A - B) * k / n) := by
  obtain ⟨D, hD⟩ : ∃ D, D = A - B := ⟨_, rfl⟩
  have hm : D * k ≤ 11000 * 120 := Nat.mul_le_mul (by omega) (by omega)
  have hx : D * k ≤ n * D := by rw [Nat.mul_comm]; exact Nat.mul_le_mul_right _ hk
  have hq : D * k / n ≤ D := Nat.div_le_of_le_mul hx
  obtain ⟨X, hX⟩ : ∃ X, X = D * k := ⟨_, rfl⟩
  have e1 : (nI B - nI A).toInt = -(D : Int) := by rw [pk_sub_toInt (by omega) (by omega)]; omega
  have e2 : ((nI B - nI A) * nI k).toInt = -(X : Int) := by
    have hp : -(D : Int) * (k : Int) = -(X : Int) := by rw [hX, Int.neg_mul, Int.natCast_mul]
    rw [← hX] at hm
    rw [fb_mulI] <;> rw [e1, nI_toInt (by omega), hp] <;> omega
  have e3 : ((nI B - nI A) * nI k / nI n).toInt = -((X / n : Nat) : Int) := by
    rw [y_divI (nI_nm1 (by omega)), e2, nI_toInt (by omega), Int.neg_tdiv]
    rfl
  rw [← hD, ← hX]
  rw [← hX] at hq
  obtain ⟨Y, hY⟩ : ∃ Y, Y = X / n := ⟨_, rfl⟩
  rw [← hY] at hq e3 ⊢
  rw [m_way, if_pos (show (1 : Int32) ≤ nI n from nI_le (a := 1) (b := n) hn (by omega))]
  apply Int32.toInt_inj.mp
  rw [nI_toInt (by omega), fb_addI] <;> rw [e3, nI_toInt (by omega)] <;> omega
theorem m_way_rg {A B k n : Nat} (hA : 5000 ≤ A ∧ A ≤ 11000) (hB : 5000 ≤ B ∧ B ≤ 11000) (hk : k ≤ n) (hn : 1 ≤ n) (hn2 : n ≤ 120) : ∃ Q : Nat, m_way (nI A) (nI B) (nI k) (nI n) = nI Q ∧ 5000 ≤ Q ∧ Q ≤ 11000 := by
  rcases Nat.lt_or_ge B A with h | h
  · have hx : (A - B) * k ≤ n * (A - B) := by rw [Nat.mul_comm]; exact Nat.mul_le_mul_right _ hk
    have hq : (A - B) * k / n ≤ A - B := Nat.div_le_of_le_mul hx
    have he := m_way_dn h hA.2 hk hn hn2
    obtain ⟨X, hX⟩ : ∃ X, X = (A - B) * k / n := ⟨_, rfl⟩
    rw [← hX] at hq he
    exact ⟨_, he, by omega, by omega⟩
  · have hx : (B - A) * k ≤ n * (B - A) := by rw [Nat.mul_comm]; exact Nat.mul_le_mul_right _ hk
    have hq : (B - A) * k / n ≤ B - A := Nat.div_le_of_le_mul hx
    have he := m_way_up h hB.2 hk hn hn2
    obtain ⟨X, hX⟩ : ∃ X, X = (B - A) * k / n := ⟨_, rfl⟩
    rw [← hX] at hq he
    exact ⟨_, he, by omega, by omega⟩
theorem m_way_end {A B n : Nat} (hA : 5000 ≤ A ∧ A ≤ 11000) (hB : 5000 ≤ B ∧ B ≤ 11000) (hn : 1 ≤ n) (hn2 : n ≤ 120) : m_way (nI A) (nI B) (nI n) (nI n) = nI B := by
  rcases Nat.lt_or_ge B A with h | h
  · rw [m_way_dn h hA.2 (Nat.le_refl _) hn hn2, Nat.mul_div_cancel _ (by omega)]
    congr 1
    omega
  · rw [m_way_up h hB.2 (Nat.le_refl _) hn hn2, Nat.mul_div_cancel _ (by omega)]
    congr 1
    omega
/-! the climb counter -/
theorem m_cl_eq {b a d t x : Int32} {T : Nat} (hb : -100000 ≤ b.toInt ∧ b.toInt ≤ 100000) (hx : -100000 ≤ x.toInt ∧ x.toInt ≤ 100000) (ht : t = nI T) (hT : 1 ≤ T) (hT2 : T ≤ 1000) :
    (t ≤ m_abs (x - b) → m_tb b t x = b + (x - b) ∧ m_ta b a t x = a + (if 0 < x - b then x - b else 0) ∧ m_td b d t x = d + (if x - b < 0 then -(x - b) else 0)) ∧
    (¬ t ≤ m_abs (x - b) → m_tb b t x = b ∧ m_ta b a t x = a ∧ m_td b d t x = d) := by
  have et : t.toInt = (T : Int) := by rw [ht, nI_toInt (by omega)]
  have e1 : (x - b).toInt = x.toInt - b.toInt := fb_subI (by omega) (by omega)
  have e2 : (b + t).toInt = b.toInt + t.toInt := fb_addI (by omega) (by omega)
  have e3 : (b - t).toInt = b.toInt - t.toInt := fb_subI (by omega) (by omega)
  have e4 : (m_abs (x - b)).toInt = m_ab (x.toInt - b.toInt) := by rw [m_abs_toInt (by rw [e1]; omega), e1]
  have eb : b + (x - b) = x := by rw [Int32.add_comm, Int32.sub_add_cancel]
  unfold m_tb m_ta m_td
  by_cases c1 : b + t ≤ x
  · have c1' := (fa_le _ _).mp c1
    rw [e2] at c1'
    have p0 : 0 < x - b := (fa_lt _ _).mpr (by rw [k_0I, e1]; omega)
    have n0 : ¬ x - b < 0 := fun z => by have z' := (fa_lt _ _).mp z; rw [k_0I, e1] at z'; omega
    rw [if_pos c1, if_pos c1, if_pos c1, if_pos p0, if_neg n0, eb, Int32.add_zero]
    refine ⟨fun _ => ⟨rfl, rfl, rfl⟩, fun z => absurd ((fa_le _ _).mpr ?_) z⟩
    rw [e4, m_ab, if_neg (by omega)]
    omega
  · have c1' := mt (fa_le _ _).mpr c1
    rw [e2] at c1'
    rw [if_neg c1, if_neg c1, if_neg c1]
    by_cases c2 : x ≤ b - t
    · have c2' := (fa_le _ _).mp c2
      rw [e3] at c2'
      have p0 : ¬ 0 < x - b := fun z => by have z' := (fa_lt _ _).mp z; rw [k_0I, e1] at z'; omega
      have n0 : x - b < 0 := (fa_lt _ _).mpr (by rw [k_0I, e1]; omega)
      rw [if_pos c2, if_pos c2, if_neg p0, if_pos n0, eb, Int32.add_zero, Int32.neg_sub]
      refine ⟨fun _ => ⟨rfl, rfl, rfl⟩, fun z => absurd ((fa_le _ _).mpr ?_) z⟩
      rw [e4, m_ab, if_pos (by omega)]
      omega
    · have c2' := mt (fa_le _ _).mpr c2
      rw [e3] at c2'
      rw [if_neg c2, if_neg c2]
      refine ⟨fun z => ?_, fun _ => ⟨rfl, rfl, rfl⟩⟩
      have z' := (fa_le _ _).mp z
      rw [e4, m_ab] at z'
      split at z' <;> omega

