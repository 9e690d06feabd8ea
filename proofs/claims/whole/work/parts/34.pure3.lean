/-! class and reference alike: the minutes to an alarm -/
/-- the pressures of the log, and of the fall behind them -/
def m_sq (f : Nat → Int32) (cn P e : Nat) (k : Nat) : Int32 := if k < cn then f k else nI (P - e * (k - cn + 1))
def m_cw (cn i : Nat) : Nat := if cn + i ≤ 60 then cn + i else 60
theorem m_cw_s (cn i : Nat) : m_lgC (m_cw cn i) + 1 = m_cw cn (i + 1) := by
  unfold m_cw
  by_cases c : cn + i ≤ 60
  · rw [if_pos c]
    unfold m_lgC
    by_cases d : cn + i = 60
    · rw [if_pos d, if_neg (by omega)]
    · rw [if_neg d, if_pos (by omega)]
      omega
  · rw [if_neg c, if_neg (by omega)]
    rfl
section UA
variable {sv g : Nat → Int32} {cn P e : Nat} {per : Int32}
theorem m_ua_win (h : ∀ i, i < 116 → sv i = g i) (hcn : cn ≤ 60) (h0 : g 0 = nI P) (hper : per = nI e) (he : 1 ≤ e) (hP : P ≤ 11000) : ∀ i, e * i ≤ P →
    (m_uaA sv cn per i).2 = m_cw cn i ∧ (m_uaA sv cn per i).1 1044 = nI (P - e * i) ∧ (m_uaA sv cn per i).1 (1044 + 11) = g 11 ∧ ∀ k, k < m_cw cn i → (m_uaA sv cn per i).1 (1044 + 15 + k) = m_sq (m_log g) cn P e (cn + i - m_cw cn i + k)
  | 0, _ => by
    have e1 : (m_uaA sv cn per 0).1 = m_cpA sv 0 9 116 := by rw [m_uaA]
    have e2 : (m_uaA sv cn per 0).2 = cn := by rw [m_uaA]
    have ew : m_cw cn 0 = cn := if_pos (by omega)
    rw [e1, e2, ew]
    refine ⟨rfl, ?_, ?_, fun k hk => ?_⟩
    · have := m_cp9 (sv := sv) (j := 0) (by decide)
      rw [show (1044 : Nat) = 1044 + 0 from rfl, this, h 0 (by decide), h0]
      rfl
    · rw [m_cp9 (by decide), h 11 (by decide)]
    · rw [show 1044 + 15 + k = 1044 + (15 + k) by omega, m_cp9 (by omega), h _ (by omega), m_sq, if_pos (by omega), m_log_at (by omega)]
      congr 1
      omega
  | i + 1, hi => by
    have hm : e * (i + 1) = e * i + e := Nat.mul_succ e i
    obtain ⟨a1, a2, a3, a4⟩ := m_ua_win h hcn h0 hper he hP i (by omega)
    have hc : m_cw cn i ≤ 60 := by unfold m_cw; split <;> omega
    rw [m_ua_s1, m_ua_s2, a1, a2]
    have ep : nI (P - e * i) - per = nI (P - e * (i + 1)) := by
      rw [hper, pk_sub (by omega)]
      congr 1
      omega
    rw [ep]
    refine ⟨m_cw_s cn i, ?_, ?_, fun k hk => ?_⟩
    · rw [m_lgA_0, pk_us]
    · rw [m_lgA_out hc (by omega), pk_un (by omega), a3]
    · have hk60 : k < 60 := by unfold m_cw at hk; split at hk <;> omega
      rw [m_lgA_in hk60]
      by_cases q : k = m_lgC (m_cw cn i)
      · rw [if_pos q, pk_us]
        have hs := m_cw_s cn i
        have hle : cn + i ≥ m_lgC (m_cw cn i) := by unfold m_lgC m_cw; split <;> split <;> omega
        have hge : cn ≤ cn + (i + 1) - m_cw cn (i + 1) + k := by omega
        rw [m_sq, if_neg (by omega)]
        congr 2
        rw [show cn + (i + 1) - m_cw cn (i + 1) + k - cn + 1 = i + 1 by omega]
      · rw [if_neg q]
        by_cases d : m_cw cn i = 60
        · have hs : m_cw cn (i + 1) = 60 := by rw [← m_cw_s, d]; rfl
          have hl : m_lgC (m_cw cn i) = 59 := by rw [d]; rfl
          have hge : 60 ≤ cn + i := by unfold m_cw at d; split at d <;> omega
          rw [if_pos d, if_pos (by omega), pk_un (by omega), show 1044 + 15 + k + 1 = 1044 + 15 + (k + 1) by omega, a4 _ (by omega), d, hs]
          congr 1
          omega
        · have hl : m_lgC (m_cw cn i) = m_cw cn i := if_neg d
          have hs := m_cw_s cn i
          have hle : m_cw cn i = cn + i := by unfold m_cw at d ⊢; split at d <;> split <;> omega
          rw [if_neg d, pk_un (by omega), a4 _ (by omega)]
          congr 1
          omega
end UA
theorem m_mx_app {f : Nat → Int32} {s r : Nat} {x : Int32} {P e i : Nat} (hP : P ≤ 11000) (hr : ∀ j, j < i → f (s + r + j) = nI (P - e * (j + 1))) (hx : x = m_mx f s r) : ∀ j, j < i → m_mx f s (r + (j + 1)) = if x < nI (P - e) then nI (P - e) else x
  | 0, h => by
    rw [show r + (0 + 1) = r + 1 from rfl, m_mx, ← hx, show s + r = s + r + 0 from rfl, hr 0 h, show e * (0 + 1) = e by omega]
  | j + 1, h => by
    have hm : e ≤ e * (j + 1 + 1) := Nat.le_mul_of_pos_right e (by omega)
    rw [show r + (j + 1 + 1) = r + (j + 1) + 1 from rfl, m_mx, m_mx_app hP hr hx j (by omega), show s + (r + (j + 1)) = s + r + (j + 1) by omega, hr (j + 1) h]
    rw [if_neg]
    intro z
    have hy : nI (P - e * (j + 1 + 1)) ≤ nI (P - e) := nI_le (by omega) (by omega)
    split at z
    · exact Int32.lt_irrefl (Int32.lt_of_lt_of_le z hy)
    · rename_i q
      exact q (Int32.lt_of_lt_of_le z hy)
theorem m_mx_sh {f f' : Nat → Int32} {s s' : Nat} : ∀ n, (∀ k, k < n → f (s + k) = f' (s' + k)) → m_mx f s n = m_mx f' s' n
  | 0, _ => rfl
  | n + 1, h => by
    rw [m_mx, m_mx, m_mx_sh n (fun k hk => h k (by omega)), h n (by omega)]
section UB
variable {sv g : Nat → Int32} {cn P e : Nat} {per : Int32}
/-- an alarm i minutes later, as the class asks -/
def m_cls (f : Nat → Int32) (cn : Nat) (p per lim : Int32) (m : Nat) : Prop := lim ≤ (if m_mx f (cn - (60 - m)) (cn - (cn - (60 - m))) < p - per then p - per else m_mx f (cn - (60 - m)) (cn - (cn - (60 - m)))) - (p - per * nI m)
theorem m_ua_al (h : ∀ i, i < 116 → sv i = g i) (hcn : cn ≤ 60) (h0 : g 0 = nI P) (hper : per = nI e) (he : 1 ≤ e) (hP : P ≤ 11000) {i : Nat} (hi1 : 1 ≤ i) (hi : i ≤ 60) (hle : e * i ≤ P) :
    (m_alM (m_uaA sv cn per i).1 1044 (m_uaA sv cn per i).2 = 0) ↔ ¬ m_cls (m_log g) cn (g 0) per (g 11) i := by
  obtain ⟨a1, a2, a3, a4⟩ := m_ua_win h hcn h0 hper he hP i hle
  have hei : e ≤ e * i := Nat.le_mul_of_pos_right e hi1
  obtain ⟨r, hr⟩ : ∃ r, r = cn - (cn - (60 - i)) := ⟨_, rfl⟩
  have hw : m_cw cn i = r + i := by unfold m_cw; split <;> omega
  have hst : cn + i - m_cw cn i = cn - (60 - i) := by omega
  rw [a1, m_al_eq (f := fun k => m_sq (m_log g) cn P e (cn - (60 - i) + k)) (fun k hk => by rw [a4 k hk, hst]), a3]
  have hmx : m_mx (fun k => m_sq (m_log g) cn P e (cn - (60 - i) + k)) 0 r = m_mx (m_log g) (cn - (60 - i)) r := by
    refine m_mx_sh r (fun k hk => ?_)
    show m_sq (m_log g) cn P e (cn - (60 - i) + (0 + k)) = _
    rw [m_sq, if_pos (by omega), Nat.zero_add]
  have hap := m_mx_app (f := fun k => m_sq (m_log g) cn P e (cn - (60 - i) + k)) (s := 0) (r := r) (i := i) hP (fun j hj => by
    show m_sq (m_log g) cn P e (cn - (60 - i) + (0 + r + j)) = _
    rw [m_sq, if_neg (by omega)]
    congr 2
    rw [show cn - (60 - i) + (0 + r + j) - cn + 1 = j + 1 by omega]) hmx.symm (i - 1) (by omega)
  have hlast : m_sq (m_log g) cn P e (cn - (60 - i) + (r + i - 1)) = nI (P - e * i) := by
    rw [m_sq, if_neg (by omega)]
    congr 2
    rw [show cn - (60 - i) + (r + i - 1) - cn + 1 = i by omega]
  have ep : g 0 - per = nI (P - e) := by rw [h0, hper, pk_sub (by omega)]
  have epi : g 0 - per * nI i = nI (P - e * i) := by rw [h0, hper, pk_mul, pk_sub (by omega)]
  have ef : m_fall (m_cw cn i) (fun k => m_sq (m_log g) cn P e (cn - (60 - i) + k)) = (if m_mx (m_log g) (cn - (60 - i)) r < nI (P - e) then nI (P - e) else m_mx (m_log g) (cn - (60 - i)) r) - nI (P - e * i) := by
    unfold m_fall
    rw [if_neg (by omega), hw, show r + i = r + (i - 1 + 1) by omega, hap]
    show _ - m_sq (m_log g) cn P e (cn - (60 - i) + (r + (i - 1 + 1) - 1)) = _
    rw [show r + (i - 1 + 1) - 1 = r + i - 1 by omega, hlast]
  unfold m_al m_cls
  rw [ef, ep, epi, ← hr]
  constructor
  · intro z c
    rw [if_pos c] at z
    exact absurd z (by decide)
  · intro c
    rw [if_neg c]
/-- from the 60th minute on it goes on alike -/
theorem m_ua_late (h : ∀ i, i < 116 → sv i = g i) (hcn : cn ≤ 60) (h0 : g 0 = nI P) (hper : per = nI e) (he : 1 ≤ e) (hP : P ≤ 11000) (hno : ¬ g 11 ≤ nI (59 * e)) : ∀ f i, 60 ≤ i → e * i ≤ P → m_uaR sv cn per f i = -1
  | 0, _, _, _ => rfl
  | f + 1, i, hi, hle => by
    obtain ⟨a1, a2, a3, a4⟩ := m_ua_win h hcn h0 hper he hP i hle
    have hw : m_cw cn i = 60 := by unfold m_cw; split <;> omega
    have hm1 : e * (i - 59) + e * 59 = e * i := by rw [← Nat.mul_add]; congr 1; omega
    have hap := m_mx_app (f := fun k => m_sq (m_log g) cn P e (cn + i - 60 + k)) (s := 0) (r := 0) (x := 0) (P := P - e * (i - 60)) (e := e) (i := 60) (by omega) (fun j hj => by
      show m_sq (m_log g) cn P e (cn + i - 60 + (0 + 0 + j)) = _
      rw [m_sq, if_neg (by omega), Nat.sub_sub, ← Nat.mul_add]
      congr 3
      omega) rfl 59 (by omega)
    have hs : e * (i - 60) + e = e * (i - 59) := by rw [← Nat.mul_succ]; congr 1; omega
    have hlast : m_sq (m_log g) cn P e (cn + i - 60 + 59) = nI (P - e * i) := by
      rw [m_sq, if_neg (by omega)]
      congr 2
      rw [show cn + i - 60 + 59 - cn + 1 = i by omega]
    have h59 : 1 ≤ e * 59 := by omega
    have ef : m_fall 60 (fun k => m_sq (m_log g) cn P e (cn + i - 60 + k)) = nI (59 * e) := by
      unfold m_fall
      have hp : (0 : Int32) < nI (P - e * (i - 59)) := nI_lt (a := 0) (b := P - e * (i - 59)) (by omega) (by omega)
      rw [Nat.sub_sub, hs, if_pos hp] at hap
      have hap' : m_mx (fun k => m_sq (m_log g) cn P e (cn + i - 60 + k)) 0 60 = nI (P - e * (i - 59)) := hap
      rw [if_neg (by decide), hap']
      show _ - m_sq (m_log g) cn P e (cn + i - 60 + 59) = _
      rw [hlast, pk_sub (by omega)]
      congr 1
      omega
    have al : m_alM (m_uaA sv cn per i).1 1044 (m_uaA sv cn per i).2 = 0 := by
      rw [a1, hw, m_al_eq (f := fun k => m_sq (m_log g) cn P e (cn + i - 60 + k)) (fun k hk => by rw [a4 k (by omega), hw]), a3, m_al, ef, if_neg hno]
    rw [m_uaR, if_pos al]
    by_cases q : (m_uaA sv cn per i).1 1044 - per < 5000
    · rw [if_pos q]
    · rw [if_neg q]
      refine m_ua_late h hcn h0 hper he hP hno f (i + 1) (by omega) ?_
      have hm : e * (i + 1) = e * i + e := Nat.mul_succ e i
      rcases Nat.lt_or_ge (P - e * i) e with z | z
      · exfalso
        apply q
        rw [a2, hper]
        exact (fa_lt _ _).mpr (by rw [pk_sub_toInt (by omega) (by omega), show (5000 : Int32).toInt = 5000 from by decide]; omega)
      · omega
theorem m_cls60 (hcn : cn ≤ 60) {f : Nat → Int32} {p lim : Int32} (hp : p = nI P) (hper : per = nI e) (he : 1 ≤ e) (hP : P ≤ 11000) (hle : e * 60 ≤ P) : m_cls f cn p per lim 60 ↔ lim ≤ nI (59 * e) := by
  unfold m_cls
  have e1 : p - per = nI (P - e) := by rw [hp, hper, pk_sub (by omega)]
  have e2 : p - per * nI 60 = nI (P - e * 60) := by rw [hp, hper, pk_mul, pk_sub hle]
  rw [e1, e2, show cn - (60 - 60) = cn by omega, Nat.sub_self]
  have hp : (0 : Int32) < nI (P - e) := nI_lt (a := 0) (b := P - e) (by omega) (by omega)
  rw [show m_mx f cn 0 = 0 from rfl, if_pos hp, pk_sub (by omega), show P - e - (P - e * 60) = 59 * e by omega]
theorem m_ua_mof (h : ∀ i, i < 116 → sv i = g i) (hcn : cn ≤ 60) (h0 : g 0 = nI P) (hper : per = nI e) (he : 1 ≤ e) (he2 : e ≤ 20) (hP : P ≤ 11000) : ∀ k f i, i + k = 60 → i + f = 6000 → e * i ≤ P → (1 ≤ i → ¬ m_cls (m_log g) cn (g 0) per (g 11) i) → m_alM (m_uaA sv cn per i).1 1044 (m_uaA sv cn per i).2 = 0 → m_uaR sv cn per (f + 1) i = m_mof (m_log g) cn (g 0) per (g 11) k (i + 1)
  | 0, f, i, hi, _, hle, hc, _ => by
    have e60 : i = 60 := by omega
    subst e60
    have := hc (by decide)
    rw [m_cls60 hcn h0 hper he hP hle] at this
    exact m_ua_late h hcn h0 hper he hP this (f + 1) 60 (by decide) hle
  | k + 1, f, i, hi, hf, hle, hc, hal => by
    obtain ⟨a1, a2, a3, a4⟩ := m_ua_win h hcn h0 hper he hP i hle
    have hm : e * (i + 1) = e * i + e := Nat.mul_succ e i
    have hb : e * i ≤ 20 * 60 := Nat.mul_le_mul he2 (by omega)
    have eq1 : nI (P - e * i) - per = g 0 - per * nI (i + 1) := by
      rw [h0, hper, pk_mul]
      apply Int32.toInt_inj.mp
      rw [pk_sub_toInt (by omega) (by omega), pk_sub_toInt (by omega) (by omega)]
      omega
    rw [m_uaR, if_pos hal, a2, m_mof, eq1]
    by_cases q : g 0 - per * nI (i + 1) < 5000
    · rw [if_pos q, if_pos q]
    · rw [if_neg q, if_neg q]
      have hle' : e * (i + 1) ≤ P := by
        rcases Nat.lt_or_ge P (e * (i + 1)) with z | z
        · exfalso
          apply q
          rw [h0, hper, pk_mul]
          exact (fa_lt _ _).mpr (by rw [pk_sub_toInt (by omega) (by omega), show (5000 : Int32).toInt = 5000 from by decide]; omega)
        · exact z
      obtain ⟨f', rfl⟩ : ∃ f', f = f' + 1 := ⟨f - 1, by omega⟩
      have hal' := m_ua_al h hcn h0 hper he hP (i := i + 1) (by omega) (by omega) hle'
      by_cases c : m_cls (m_log g) cn (g 0) per (g 11) (i + 1)
      · have al1 : ¬ m_alM (m_uaA sv cn per (i + 1)).1 1044 (m_uaA sv cn per (i + 1)).2 = 0 := fun z => hal'.mp z c
        unfold m_cls at c
        rw [m_uaR, if_neg al1, if_pos c]
      · have ih := m_ua_mof h hcn h0 hper he he2 hP k f' (i + 1) (by omega) (by omega) hle' (fun _ => c) (hal'.mpr c)
        unfold m_cls at c
        rw [if_neg c]
        exact ih
end UB
theorem m_ua_eq {sv g : Nat → Int32} {per : Int32} {e : Nat} (h : ∀ i, i < 116 → sv i = g i) (hg : z_inv g) (hper : per = nI e) (he : 1 ≤ e) (he2 : e ≤ 20) : m_uaV sv (m_n (g 14)) per = m_muC g per := by
  obtain ⟨P, h0, hP⟩ := hg.2.1
  obtain ⟨cn, hcn⟩ : ∃ cn, cn = m_n (g 14) := ⟨_, rfl⟩
  have h60 := hg.1.1.2
  unfold m_uaV m_muC
  rw [h 2 (by decide), ← hcn]
  rw [← hcn] at h60
  by_cases c : g 2 = 0
  · rw [if_pos c, if_pos c]
  · rw [if_neg c, if_neg c]
    obtain ⟨a1, a2, a3, a4⟩ := m_ua_win (cn := cn) h h60 h0 hper he hP.2 0 (by omega)
    have ew : m_cw cn 0 = cn := if_pos (by omega)
    have al : m_alM (m_uaA sv cn per 0).1 1044 (m_uaA sv cn per 0).2 = m_al cn (m_log g) (g 11) := by
      rw [a1, ew, m_al_eq (f := m_log g) (fun k hk => by
        rw [a4 k (by omega), m_sq, if_pos (by omega), ew]
        congr 1
        omega), a3]
    by_cases q : m_al cn (m_log g) (g 11) = 0
    · rw [if_pos q]
      exact m_ua_mof h h60 h0 hper he he2 hP.2 60 6000 0 rfl rfl (by omega) (fun z => absurd z (by decide)) (al.trans q)
    · rw [if_neg q, m_uaR, if_neg (fun z => q (al.symm.trans z))]
      rfl
theorem m_uaA_lo {sv : Nat → Int32} {m x : Nat} {per : Int32} (hm : sv 14 = nI m) (hm6 : m ≤ 60) (hx : x < 1044) : ∀ i, (m_uaA sv m per i).1 x = sv x
  | 0 => by
    have e0 : (m_uaA sv m per 0).1 = m_cpA sv 0 9 116 := by rw [m_uaA]
    rw [e0]
    exact m_cpA_ne _ (Or.inl hx)
  | i + 1 => by
    rw [m_ua_s1, m_lgA_out (m_ua14 hm hm6 i).2 (Or.inl (by omega)), pk_un (by omega)]
    exact m_uaA_lo hm hm6 hx i
theorem m_uaX_lo {sv : Nat → Int32} {m x : Nat} {per : Int32} (hm : sv 14 = nI m) (hm6 : m ≤ 60) (hx : x < 1044) : ∀ f i, m_uaX sv m per f i x = sv x
  | 0, _ => rfl
  | f + 1, i => by
    rw [m_uaX]
    split
    · split
      · rw [pk_un (by omega)]
        exact m_uaA_lo hm hm6 hx i
      · exact m_uaX_lo hm hm6 hx f (i + 1)
    · exact m_uaA_lo hm hm6 hx i
theorem m_uaW_lo {sv : Nat → Int32} {m x : Nat} {per : Int32} (hm : sv 14 = nI m) (hm6 : m ≤ 60) (hx : x < 1044) : m_uaW sv m per x = sv x := by
  unfold m_uaW
  split
  · rfl
  · exact m_uaX_lo hm hm6 hx _ _
