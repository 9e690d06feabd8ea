/-! class and reference alike: the minutes to an alarm -/
/-- the pressures of the log, and of the fall behind them -/
def m_sq (f : Nat → Int32) (cn P e : Nat) (k : Nat) : Int32 := if k < cn then f k else nI (P - e * (k - cn + 1))
def m_cw (cn i : Nat) : Nat := if cn + i ≤ 60 then cn + i else 60
theorem m_cw_s (cn i : Nat) : m_lgC (m_cw cn i) + 1 = m_cw cn (i + 1) := by
  unfold m_cw
  by_cases c : cn + i ≤ 60
  · rw [if_pos c]
    unfold m_lgC
    by_cases d : cn + i = 60
    · rw [if_pos d, if_neg (by omega)]
    · rw [if_neg d, if_pos (by omega)]
      omega
  · rw [if_neg c, if_neg (by omega)]
    rfl
section UA
variable {sv g : Nat → Int32} {cn P e : Nat} {per : Int32}
end UA
theorem m_mx_app {f : Nat → Int32} {s r : Nat} {x : Int32} {P e i : Nat} (hP : P ≤ 11000) (hr : ∀ j, j < i → f (s + r + j) = nI (P - e * (j + 1))) (hx : x = m_mx f s r) : ∀ j, j < i → m_mx f s (r + (j + 1)) = if x < nI (P - e) then nI (P - e) else x
  | 0, h => by
    rw [show r + (0 + 1) = r + 1 from rfl, m_mx, ← hx, show s + r = s + r + 0 from rfl, hr 0 h, show e * (0 + 1) = e by omega]
  | j + 1, h => by
    have hm : e ≤ e * (j + 1 + 1) := Nat.le_mul_of_pos_right e (by omega)
    rw [show r + (j + 1 + 1) = r + (j + 1) + 1 from rfl, m_mx, m_mx_app hP hr hx j (by omega), show s + (r + (j + 1)) = s + r + (j + 1) by omega, hr (j + 1) h]
    rw [if_neg]
    intro z
    have hy : nI (P - e * (j + 1 + 1)) ≤ nI (P - e) := nI_le (by omega) (by omega)
    split at z
    · exact Int32.lt_irrefl (Int32.lt_of_lt_of_le z hy)
    · rename_i q
      exact q (Int32.lt_of_lt_of_le z hy)
theorem m_mx_sh {f f' : Nat → Int32} {s s' : Nat} : ∀ n, (∀ k, k < n → f (s + k) = f' (s' + k)) → m_mx f s n = m_mx f' s' n
  | 0, _ => rfl
  | n + 1, h => by
    rw [m_mx, m_mx, m_mx_sh n (fun k hk => h k (by omega)), h n (by omega)]
section UB
variable {sv g : Nat → Int32} {cn P e : Nat} {per : Int32}
/-- an alarm i minutes later, as the class asks -/
def m_cls (f : Nat → Int32) (cn : Nat) (p per lim : Int32) (m : Nat) : Prop := lim ≤ (if m_mx f (cn - (60 - m)) (cn - (cn - (60 - m))) < p - per then p - per else m_mx f (cn - (60 - m)) (cn - (cn - (60 - m)))) - (p - per * nI m)
theorem m_cls60 (hcn : cn ≤ 60) {f : Nat → Int32} {p lim : Int32} (hp : p = nI P) (hper : per = nI e) (he : 1 ≤ e) (hP : P ≤ 11000) (hle : e * 60 ≤ P) : m_cls f cn p per lim 60 ↔ lim ≤ nI (59 * e) := by
  unfold m_cls
  have e1 : p - per = nI (P - e) := by rw [hp, hper, pk_sub (by omega)]
  have e2 : p - per * nI 60 = nI (P - e * 60) := by rw [hp, hper, pk_mul, pk_sub hle]
  rw [e1, e2, show cn - (60 - 60) = cn by omega, Nat.sub_self]
  have hp : (0 : Int32) < nI (P - e) := nI_lt (a := 0) (b := P - e) (by omega) (by omega)
  rw [show m_mx f cn 0 = 0 from rfl, if_pos hp, pk_sub (by omega), show P - e - (P - e * 60) = 59 * e by omega]
end UB
