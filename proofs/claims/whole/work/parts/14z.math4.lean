/-! texts of trips, as the class reads them: part, minutes, number -/
def m_cgl (low high least most : Int32) : Nat → Int32
  | 0 => 0
  | k + 1 => if low ≤ most then (if least ≤ high then 1 else m_cgl (low * 10) (high * 10 + 9) least most k) else 0
def m_cg (n least most : Int32) : Int32 := if n = 0 then (if least ≤ 0 then 1 else 0) else m_cgl n n least most 5
def m_max0 (n : Int32) : Int32 := if n < 0 then 0 else n
def m_lon (nu c : Int32) : Int32 := m_max0 nu * 10 + c - 48
/-- a digit: is it read -/
def m_rdo (nu c least most : Int32) : Int32 := if c < 48 then 0 else if 57 < c then 0 else if nu = 0 then 0 else m_cg (m_lon nu c) least most
def m_rdn (nu c least most : Int32) : Int32 := if m_rdo nu c least most = 0 then nu else m_lon nu c
def m_pw (pt nu : Int32) : Int32 := if pt = 2 then (if 5000 ≤ nu then 1 else 0) else if pt = 3 then (if 0 ≤ nu then 1 else 0) else if pt = 4 then 1 else if pt = 5 then 1 else 0
/-- a character: is it read; part, minutes, number behind it -/
def m_rso (pt nu c : Int32) : Int32 :=
  if c = 59 then m_pw pt nu
  else if pt = 0 then (if c = 99 then 1 else if c = 109 then 1 else if c = 115 then 1 else m_rdo nu c 1 120)
  else if pt = 1 then (if c = 62 then 1 else m_rdo nu c 1 120)
  else if pt = 2 then m_rdo nu c 5000 11000
  else if pt = 3 then m_rdo nu c 0 50000 else 0
def m_rsp (pt nu c : Int32) : Int32 :=
  if c = 59 then (if m_pw pt nu = 0 then pt else 0)
  else if pt = 0 then (if c = 99 then 3 else if c = 109 then 5 else if c = 115 then 4 else if m_rdo nu c 1 120 = 0 then pt else 1)
  else if pt = 1 then (if c = 62 then 2 else pt) else pt
def m_rsm (pt mi nu c : Int32) : Int32 := if c = 59 then mi else if pt = 1 then (if c = 62 then nu else mi) else mi
def m_rsn (pt nu c : Int32) : Int32 :=
  if c = 59 then (if m_pw pt nu = 0 then nu else -1)
  else if pt = 0 then (if c = 99 then nu else if c = 109 then nu else if c = 115 then nu else m_rdn nu c 1 120)
  else if pt = 1 then (if c = 62 then -1 else m_rdn nu c 1 120)
  else if pt = 2 then m_rdn nu c 5000 11000
  else if pt = 3 then m_rdn nu c 0 50000 else nu
abbrev m_R : Type := Int32 × Int32 × Int32
def m_rs (r : m_R) (c : Int32) : m_R := (m_rsp r.1 r.2.2 c, m_rsm r.1 r.2.1 r.2.2 c, m_rsn r.1 r.2.2 c)
def m_run (tx : Nat → Int32) : Nat → m_R
  | 0 => (0, 0, -1)
  | k + 1 => m_rs (m_run tx k) (tx k)
/-- the place of the first error: n characters more, from the i-th on -/
def m_fel (tx : Nat → Int32) : Nat → Nat → Nat
  | 0, i => i
  | n + 1, i => if m_rso (m_run tx i).1 (m_run tx i).2.2 (tx i) = 0 then i else m_fel tx n (i + 1)
def m_fe (tx : Nat → Int32) (len : Nat) : Nat := m_fel tx len 0
def m_pt (x : Int32) : Prop := x = 0 ∨ x = 1 ∨ x = 2 ∨ x = 3 ∨ x = 4 ∨ x = 5
theorem m_pt_rs {pt nu c : Int32} (h : m_pt pt) : m_pt (m_rsp pt nu c) := by
  unfold m_rsp
  repeat' split
  all_goals first | exact h | (unfold m_pt; simp; done)
theorem m_pt_run (tx : Nat → Int32) : ∀ k, m_pt (m_run tx k).1
  | 0 => Or.inl rfl
  | k + 1 => m_pt_rs (m_pt_run tx k)
theorem m_cgl01 (least most : Int32) : ∀ (k : Nat) (low high : Int32), m_cgl low high least most k = 0 ∨ m_cgl low high least most k = 1
  | 0, _, _ => Or.inl rfl
  | k + 1, low, high => by
    unfold m_cgl
    split
    · split
      · exact Or.inr rfl
      · exact m_cgl01 least most k _ _
    · exact Or.inl rfl
theorem m_cg01 (n least most : Int32) : m_cg n least most = 0 ∨ m_cg n least most = 1 := by
  unfold m_cg
  split
  · split
    · exact Or.inr rfl
    · exact Or.inl rfl
  · exact m_cgl01 _ _ _ _ _
theorem m_rdo01 (nu c least most : Int32) : m_rdo nu c least most = 0 ∨ m_rdo nu c least most = 1 := by
  unfold m_rdo
  repeat' split
  all_goals first | exact Or.inl rfl | exact m_cg01 _ _ _
theorem m_pw01 (pt nu : Int32) : m_pw pt nu = 0 ∨ m_pw pt nu = 1 := by
  unfold m_pw
  repeat' split
  all_goals first | exact Or.inl rfl | exact Or.inr rfl
theorem m_rso01 (pt nu c : Int32) : m_rso pt nu c = 0 ∨ m_rso pt nu c = 1 := by
  unfold m_rso
  repeat' split
  all_goals first | exact Or.inl rfl | exact Or.inr rfl | exact m_rdo01 _ _ _ _ | exact m_pw01 _ _
theorem z_b01 {x : Int32} (h : x = 0 ∨ x = 1) : narrow .boolean (.int x) = .int x := z_bool h
theorem m_run_1 (tx : Nat → Int32) (i : Nat) : (m_run tx (i + 1)).1 = m_rsp (m_run tx i).1 (m_run tx i).2.2 (tx i) := rfl
theorem m_run_2 (tx : Nat → Int32) (i : Nat) : (m_run tx (i + 1)).2.1 = m_rsm (m_run tx i).1 (m_run tx i).2.1 (m_run tx i).2.2 (tx i) := rfl
theorem m_run_3 (tx : Nat → Int32) (i : Nat) : (m_run tx (i + 1)).2.2 = m_rsn (m_run tx i).1 (m_run tx i).2.2 (tx i) := rfl
theorem m_rdn_fail {nu c least most : Int32} (h : m_rdo nu c least most = 0) : m_rdn nu c least most = nu := by rw [m_rdn, if_pos h]
theorem m_rs_fail {pt mi nu c : Int32} (h : m_rso pt nu c = 0) : m_rsp pt nu c = pt ∧ m_rsm pt mi nu c = mi ∧ m_rsn pt nu c = nu := by
  unfold m_rso at h
  unfold m_rsp m_rsm m_rsn
  by_cases c1 : c = 59
  · rw [if_pos c1] at h
    simp only [if_pos c1, if_pos h, and_self]
  · rw [if_neg c1] at h
    simp only [if_neg c1]
    by_cases p0 : pt = 0
    · rw [if_pos p0] at h
      have n1 : ¬ pt = 1 := by rw [p0]; decide
      simp only [if_pos p0, if_neg n1]
      by_cases k1 : c = 99
      · rw [if_pos k1] at h; exact absurd h (by decide)
      · by_cases k2 : c = 109
        · rw [if_neg k1, if_pos k2] at h; exact absurd h (by decide)
        · by_cases k3 : c = 115
          · rw [if_neg k1, if_neg k2, if_pos k3] at h; exact absurd h (by decide)
          · rw [if_neg k1, if_neg k2, if_neg k3] at h
            simp only [if_neg k1, if_neg k2, if_neg k3, if_pos h, m_rdn_fail h, and_self]
    · rw [if_neg p0] at h
      simp only [if_neg p0]
      by_cases p1 : pt = 1
      · rw [if_pos p1] at h
        simp only [if_pos p1]
        by_cases k1 : c = 62
        · rw [if_pos k1] at h; exact absurd h (by decide)
        · rw [if_neg k1] at h
          simp only [if_neg k1, m_rdn_fail h, and_self]
      · rw [if_neg p1] at h
        simp only [if_neg p1]
        by_cases p2 : pt = 2
        · rw [if_pos p2] at h
          simp only [if_pos p2, m_rdn_fail h, and_self]
        · rw [if_neg p2] at h
          simp only [if_neg p2]
          by_cases p3 : pt = 3
          · rw [if_pos p3] at h
            simp only [if_pos p3, m_rdn_fail h, and_self]
          · simp only [if_neg p3, and_self]
theorem m_fel_le (tx : Nat → Int32) : ∀ (n i : Nat), m_fel tx n i ≤ i + n
  | 0, i => Nat.le_refl _
  | n + 1, i => by
    unfold m_fel
    split
    · omega
    · have := m_fel_le tx n (i + 1)
      omega
theorem m_fe_le (tx : Nat → Int32) (n : Nat) : m_fe tx n ≤ n := by
  have := m_fel_le tx n 0
  unfold m_fe
  omega
/-- trips have their minutes: 1 to 120 -/
def m_mi (r : m_R) : Prop := (r.1 = 2 → ∃ n : Nat, n ≤ 120 ∧ r.2.1 = nI n) ∧ (r.1 = 1 → ∃ n : Nat, n ≤ 120 ∧ r.2.2 = nI n)
