/-! ONE SHAPE OF CONTRACT for every method of class and reference; worlds as lists of segments -/
abbrev zE : Type := va_G × (Nat → ClassId)
abbrev zty (E : zE) : List (ClassId × FieldType) := [(E.2 0, .int), (E.2 0, .int), (E.2 2, .object RX5), (E.2 0, .int)]
/-- the links among nest mates -/
def zN (U : State) : Prop :=
  va_Nw (.methodLinkNest RX9 25 yX3_init RX9) U ∧ va_Nw (.methodLinkNest RX9 25 yX3_init RX9) U ∧ va_Nw (.methodLinkNest RX9 35 yX7_init RX9) U ∧ va_Nw (.methodLinkNest RX9 9 yX5_init RX9) U ∧
  va_Nw (.methodLinkNest RX2 21 yX9_copyRow RX9) U ∧ va_Nw (.methodLinkNest RX2 29 yX9_moveUp RX9) U ∧ va_Nw (.methodLinkNest RX2 33 yX9_elementOf RX9) U ∧ va_Nw (.methodLinkNest RX3 9 yX5_init RX9) U ∧
  va_Nw (.methodLinkNest RX4 17 yX5_init RX9) U ∧ va_Nw (.methodLinkNest RX5 20 yX1_init RX9) U ∧ va_Nw (.methodLinkNest RX5 27 yX8_init RX9) U ∧ va_Nw (.methodLinkNest RX5 34 yX2_init RX9) U ∧
  va_Nw (.methodLinkNest RX8 19 yX9_copyRow RX9) U ∧ va_Nw (.methodLinkNest RX8 41 yX9_moveUp RX9) U ∧ va_Nw (.methodLinkNest RX8 53 yX9_elementOf RX9) U ∧ va_AO RX5 U
theorem zN.warm {s U : State} (hW : s.WarmedH U.vm) (h : zN s) : zN U := by
  obtain ⟨h1, h2, h3, h4, h5, h6, h7, h8, h9, h10, h11, h12, h13, h14, h15, h16⟩ := h
  exact ⟨va_Nw.warmM hW h1, va_Nw.warmM hW h2, va_Nw.warmM hW h3, va_Nw.warmM hW h4, va_Nw.warmM hW h5, va_Nw.warmM hW h6, va_Nw.warmM hW h7, va_Nw.warmM hW h8, va_Nw.warmM hW h9, va_Nw.warmM hW h10, va_Nw.warmM hW h11, va_Nw.warmM hW h12, va_Nw.warmM hW h13, va_Nw.warmM hW h14, va_Nw.warmM hW h15, va_AO.moved hW.alike h16⟩
theorem zN.same {u U : State} (hv : u.vm = U.vm) (h : zN u) : zN U := by
  obtain ⟨h1, h2, h3, h4, h5, h6, h7, h8, h9, h10, h11, h12, h13, h14, h15, h16⟩ := h
  exact ⟨va_Nw.same rfl hv h1, va_Nw.same rfl hv h2, va_Nw.same rfl hv h3, va_Nw.same rfl hv h4, va_Nw.same rfl hv h5, va_Nw.same rfl hv h6, va_Nw.same rfl hv h7, va_Nw.same rfl hv h8, va_Nw.same rfl hv h9, va_Nw.same rfl hv h10, va_Nw.same rfl hv h11, va_Nw.same rfl hv h12, va_Nw.same rfl hv h13, va_Nw.same rfl hv h14, va_Nw.same rfl hv h15, va_AO.moved (by rw [hv]; exact Vm.Alike.refl _) h16⟩
def zK (E : zE) (U : State) : Prop := va_K E.1 vwCl (zty E) U ∧ zN U
theorem zK.warm {E : zE} {s U : State} (hW : s.WarmedH U.vm) (h : zK E s) : zK E U := ⟨va_K.moved hW.alike h.1, zN.warm hW h.2⟩
theorem zK.calling {E : zE} {U : State} {g : JFrame} {mk : MethodId} {a : Array Value} (h : zK E U) : zK E (U.calling g mk a) := ⟨va_K.moved (u := U) (U := U.calling g mk a) (Vm.Alike.refl U.vm) h.1, zN.same rfl h.2⟩
/-- the start of a method on the cells w; its end: the answer, the world behind, what is free -/
def zP (E : zE) (av : List Value) (sz : Nat) (w : va_W) : Array Value → State → Prop := va_Pc av (fun U => U.heap.size = sz ∧ va_P E.1 vwCl w U.heap ∧ zK E U ∧ va_D (fun _ => True) w)
def zQ (r : Option Value) (B : Heap → Prop) (A : Nat → Prop) : Array Value → State → Outcome → State → Prop := fun _ st oc t => oc = .returned r ∧ B t.heap ∧ va_F A st t
def zB (E : zE) (w1 : va_W) (A : Nat → Prop) (H : Heap) : Prop := va_P E.1 vwCl w1 H ∧ va_D A w1
theorem zP.blind {E : zE} {av : List Value} {sz : Nat} {w : va_W} : FrameBlind (zP E av sz w) := fun _ _ _ _ q => ⟨q.1, q.2.1, q.2.2.1, q.2.2.2.1.calling, q.2.2.2.2⟩
def zM (l : Launch) (y : MethodName) (ws : List Cond) (rm : Room) (E : zE) (av : List Value) (w0 : va_W) (r : Option Value) (w1 : va_W) (mc ms : Nat) : Prop :=
  ∀ sz : Nat, Met l y ws rm (zP E av sz w0) (zQ r (zB E w1 (va_A w0 sz)) (va_A w0 sz)) mc ms (va_A w0 sz)
/-- .. and where new cells come: what they are is said by some u -/
def zX (l : Launch) (y : MethodName) (ws : List Cond) (rm : Room) (E : zE) (av : List Value) (w0 : va_W) (r : Option Value) {S : Type} (w1 : S → va_W) (mc ms : Nat) : Prop :=
  ∀ sz : Nat, Met l y ws rm (zP E av sz w0) (zQ r (fun H => ∃ u : S, zB E (w1 u) (va_A w0 sz) H) (va_A w0 sz)) mc ms (va_A w0 sz)
/-- a method that changes nothing -/
def zPr (E : zE) (av : List Value) (w : va_W) : Array Value → State → Prop := va_Pc av (fun U => va_P E.1 vwCl w U.heap ∧ zK E U)
def zQr (r : Option Value) : Array Value → State → Outcome → State → Prop := fun _ st oc t => oc = .returned r ∧ t.heap = st.heap
theorem zPr.blind {E : zE} {av : List Value} {w : va_W} : FrameBlind (zPr E av w) := fun _ _ _ _ q => ⟨q.1, q.2.1, q.2.2.calling⟩
def zR (l : Launch) (y : MethodName) (ws : List Cond) (rm : Room) (E : zE) (av : List Value) (w0 : va_W) (r : Option Value) : Prop :=
  Met l y ws rm (zPr E av w0) (zQr r) 0 0 (fun _ => False)
theorem z_pre {E : zE} {s : State} {H : Heap} {w : va_W} {A : Nat → Prop} {av : List Value} (hK : zK E s) (hP : va_P E.1 vwCl w H) (hD : va_D A w) : ∀ U : State, U.heap = H → s.WarmedH U.vm → zP E av H.size w av.toArray U :=
  fun U hU hW => ⟨rfl, by rw [hU], by rw [hU]; exact hP, hK.warm hW, hD.weaken (fun _ _ _ _ => trivial)⟩
theorem z_prer {E : zE} {s : State} {H : Heap} {w : va_W} {av : List Value} (hK : zK E s) (hP : va_P E.1 vwCl w H) : ∀ U : State, U.heap = H → s.WarmedH U.vm → zPr E av w av.toArray U :=
  fun U hU hW => ⟨rfl, by rw [hU]; exact hP, hK.warm hW⟩
theorem z_bool {x : Int32} (h : x = 0 ∨ x = 1) : narrow .boolean (.int x) = .int x := by rcases h with rfl | rfl <;> rfl
theorem z_fit {x : Int32} (h : x = 0 ∨ x = 1) : fits .boolean (.int x) = true := by rcases h with rfl | rfl <;> rfl
/-! segments -/
theorem zf_mem {D : va_G} {cl : List vw_C} {w : va_W} {H : Heap} : va_P D cl w H ↔ ∀ q ∈ w, va_at D cl q H :=
  ⟨fun h q hq => by obtain ⟨i, hi⟩ := List.getElem?_of_mem hq; exact h i q hi, fun h k q hk => h q (List.mem_of_getElem? hk)⟩
theorem zf_pick {α : Type} {S S' : List α} {is : List Nat} (hs : is.map (fun i => S[i]?) = S'.map some) {k : Nat} {x : α} (hk : S'[k]? = some x) : ∃ i, is[k]? = some i ∧ S[i]? = some x := by
  have h := congrArg (fun l => l[k]?) hs
  simp only [List.getElem?_map, hk, Option.map_some] at h
  cases hi : is[k]? with
  | none => rw [hi] at h; cases h
  | some i => rw [hi] at h; exact ⟨i, rfl, Option.some.inj h⟩
theorem zf_sub {D : va_G} {cl : List vw_C} {S S' : List va_W} {H : Heap} (h : va_P D cl S.flatten H) (is : List Nat) (hs : is.map (fun i => S[i]?) = S'.map some) : va_P D cl S'.flatten H := by
  rw [zf_mem] at h ⊢
  intro q hq
  obtain ⟨w, hw, hqw⟩ := List.mem_flatten.mp hq
  obtain ⟨k, hk⟩ := List.getElem?_of_mem hw
  obtain ⟨i, -, hi⟩ := zf_pick hs hk
  exact h q (List.mem_flatten.mpr ⟨w, List.mem_of_getElem? hi, hqw⟩)
def zD (A : Nat → Prop) (S : List va_W) : Prop := (∀ (i : Nat) (w : va_W), S[i]? = some w → va_D A w) ∧ ∀ (i j : Nat) (w w' : va_W), S[i]? = some w → S[j]? = some w' → i ≠ j → ∀ p ∈ w, ∀ q ∈ w', p.1 ≠ q.1
theorem zD_app {A : Nat → Prop} {w1 w2 : va_W} : va_D A (w1 ++ w2) ↔ va_D A w1 ∧ va_D A w2 ∧ ∀ p ∈ w1, ∀ q ∈ w2, p.1 ≠ q.1 := by
  constructor
  · intro h
    refine ⟨⟨fun i j p q hi hj e => ?_, fun k q hk => ?_⟩, ⟨fun i j p q hi hj e => ?_, fun k q hk => ?_⟩, fun p hp q hq e => ?_⟩
    · have hi' := List.getElem?_append_left (l₂ := w2) (List.getElem?_eq_some_iff.mp hi).1
      have hj' := List.getElem?_append_left (l₂ := w2) (List.getElem?_eq_some_iff.mp hj).1
      exact h.1 i j p q (hi'.trans hi) (hj'.trans hj) e
    · exact h.2 k q ((List.getElem?_append_left (l₂ := w2) (List.getElem?_eq_some_iff.mp hk).1).trans hk)
    · have hi' : (w1 ++ w2)[w1.length + i]? = some p := by rw [List.getElem?_append_right (Nat.le_add_right _ _), Nat.add_sub_cancel_left]; exact hi
      have hj' : (w1 ++ w2)[w1.length + j]? = some q := by rw [List.getElem?_append_right (Nat.le_add_right _ _), Nat.add_sub_cancel_left]; exact hj
      have := h.1 _ _ p q hi' hj' e
      omega
    · refine h.2 (w1.length + k) q ?_
      rw [List.getElem?_append_right (Nat.le_add_right _ _), Nat.add_sub_cancel_left]; exact hk
    · obtain ⟨i, hi⟩ := List.getElem?_of_mem hp
      obtain ⟨j, hj⟩ := List.getElem?_of_mem hq
      have hli := (List.getElem?_eq_some_iff.mp hi).1
      have hi' := (List.getElem?_append_left (l₂ := w2) hli).trans hi
      have hj' : (w1 ++ w2)[w1.length + j]? = some q := by rw [List.getElem?_append_right (Nat.le_add_right _ _), Nat.add_sub_cancel_left]; exact hj
      have := h.1 _ _ p q hi' hj' e
      omega
  · rintro ⟨h1, h2, h3⟩
    exact va_D.app h1 h2 (fun i j p q hi hj => h3 p (List.mem_of_getElem? hi) q (List.mem_of_getElem? hj))
theorem zD_iff {A : Nat → Prop} : ∀ {S : List va_W}, va_D A S.flatten ↔ zD A S
  | [] => ⟨fun _ => ⟨fun i w h => by simp at h, fun i j w w' h => by simp at h⟩, fun _ => ⟨fun i j p q h => by simp at h, fun k q h => by simp at h⟩⟩
  | w0 :: S => by
    rw [List.flatten_cons, zD_app, zD_iff (S := S)]
    constructor
    · rintro ⟨h1, h2, h3⟩
      refine ⟨fun i w hi => ?_, fun i j w w' hi hj hne p hp q hq => ?_⟩
      · cases i with
        | zero => simp at hi; subst hi; exact h1
        | succ i => exact h2.1 i w (by simpa using hi)
      · cases i with
        | zero =>
          cases j with
          | zero => exact absurd rfl hne
          | succ j =>
            simp at hi hj
            subst hi
            exact h3 p hp q (List.mem_flatten.mpr ⟨w', List.mem_of_getElem? hj, hq⟩)
        | succ i =>
          cases j with
          | zero =>
            simp at hi hj
            subst hj
            exact fun e => h3 q hq p (List.mem_flatten.mpr ⟨w, List.mem_of_getElem? hi, hp⟩) e.symm
          | succ j => exact h2.2 i j w w' (by simpa using hi) (by simpa using hj) (by omega) p hp q hq
    · rintro ⟨h1, h2⟩
      refine ⟨h1 0 w0 rfl, ⟨fun i w hi => h1 (i + 1) w (by simpa using hi), fun i j w w' hi hj hne => h2 (i + 1) (j + 1) w w' (by simpa using hi) (by simpa using hj) (by omega)⟩, fun p hp q hq => ?_⟩
      obtain ⟨w', hw', hq'⟩ := List.mem_flatten.mp hq
      obtain ⟨j, hj⟩ := List.getElem?_of_mem hw'
      exact h2 0 (j + 1) w0 w' rfl (by simpa using hj) (by omega) p hp q hq'
theorem zf_subD {A : Nat → Prop} {S S' : List va_W} (h : va_D A S.flatten) (is : List Nat) (hn : va_nd is = true) (hs : is.map (fun i => S[i]?) = S'.map some) : va_D A S'.flatten := by
  rw [zD_iff] at h ⊢
  refine ⟨fun k w hk => ?_, fun k k' w w' hk hk' hne => ?_⟩
  · obtain ⟨i, -, hi⟩ := zf_pick hs hk
    exact h.1 i w hi
  · obtain ⟨i, h1, hi⟩ := zf_pick hs hk
    obtain ⟨j, h2, hj⟩ := zf_pick hs hk'
    refine h.2 i j w w' hi hj (fun e => hne ?_)
    subst e
    exact va_nd_inj is hn k k' i h1 h2
theorem zf_join {A0 : Nat → Prop} {D : va_G} {cl : List vw_C} {S Sc Sr : List va_W} {w1 : va_W} {H H1 : Heap} (hP : va_P D cl S.flatten H) (hD : va_D A0 S.flatten) (isC isR : List Nat) (hC : isC.map (fun i => S[i]?) = Sc.map some) (hR : isR.map (fun i => S[i]?) = Sr.map some) (hn : va_nd isR = true) (hdis : ∀ i ∈ isR, i ∉ isC)
    (hF : ∀ q, va_A Sc.flatten H.size q → A0 q) (hk : ∀ q : Nat, q < H.size → ¬ va_A Sc.flatten H.size q → H1[q]? = H[q]?) (hP1 : va_P D cl w1 H1) (hD1 : va_D (va_A Sc.flatten H.size) w1) : va_P D cl (Sr.flatten ++ w1) H1 ∧ va_D A0 (Sr.flatten ++ w1) := by
  have hPr := zf_sub hP isR hR
  have hDr := zf_subD hD isR hn hR
  have apart : ∀ p ∈ Sr.flatten, p.1 < H.size ∧ ¬ va_A Sc.flatten H.size p.1 := by
    intro p hp
    have hl := ((zf_mem.mp hPr) p hp).lt
    refine ⟨hl, ?_⟩
    rintro (⟨k, e, hke⟩ | h)
    · obtain ⟨wr, hwr, hpr⟩ := List.mem_flatten.mp hp
      obtain ⟨wc, hwc, hpc⟩ := List.mem_flatten.mp (List.mem_of_getElem? hke)
      obtain ⟨a, ha⟩ := List.getElem?_of_mem hwr
      obtain ⟨b, hb⟩ := List.getElem?_of_mem hwc
      obtain ⟨i, h1, hi⟩ := zf_pick hR ha
      obtain ⟨j, h2, hj⟩ := zf_pick hC hb
      have hij : i ≠ j := fun e => hdis i (List.mem_of_getElem? h1) (e ▸ List.mem_of_getElem? h2)
      exact (zD_iff.mp hD).2 i j wr wc hi hj hij p hpr _ hpc rfl
    · omega
  refine ⟨zf_mem.mpr (fun q hq => ?_), zD_app.mpr ⟨hDr, hD1.weaken (fun k q _ h => hF q.1 h), fun p hp q hq e => ?_⟩⟩
  · rcases List.mem_append.mp hq with h | h
    · exact (zf_mem.mp hPr q h).kept (hk q.1 (apart q h).1 (apart q h).2)
    · exact zf_mem.mp hP1 q h
  · obtain ⟨k, hk⟩ := List.getElem?_of_mem hq
    exact (apart p hp).2 (by rw [e]; exact hD1.2 k q hk)
theorem zf_free {A0 : Nat → Prop} {S Sc : List va_W} {H0 H : Heap} {locs : List Loc} (hD : va_D A0 S.flatten) (hS : va_S A0 H0 H locs) (hA : ∀ q, H0.size ≤ q → A0 q) (isC : List Nat) (hC : isC.map (fun i => S[i]?) = Sc.map some) : ∀ q, va_A Sc.flatten H.size q → A0 q := by
  rintro q (⟨k, e, hke⟩ | h)
  · obtain ⟨wc, hwc, hpc⟩ := List.mem_flatten.mp (List.mem_of_getElem? hke)
    obtain ⟨b, hb⟩ := List.getElem?_of_mem hwc
    obtain ⟨j, -, hj⟩ := zf_pick hC hb
    obtain ⟨k2, hk2⟩ := List.getElem?_of_mem hpc
    exact ((zD_iff.mp hD).1 j wc hj).2 k2 _ hk2
  · exact hA q (Nat.le_trans hS.1 h)
theorem zf_app {S S' T : List va_W} (h : S.flatten = S'.flatten) : (S ++ T).flatten = (S' ++ T).flatten := by rw [List.flatten_append, List.flatten_append, h]
section ZC
variable {p : Program} {l : Launch} {e : Env} {R : Room} {s : State} {m : MethodId} {args : Array Value} {below : List Frame} {meth : Method} {c : Code} {H : Heap} {locs : List Loc} {cells slots : Nat} {Q : State → Prop}
variable {pc : Nat} {ls : Array Slot} {rest st0 : List Value} {a : Array Value} {A0 : Nat → Prop} {H0 : Heap} {mc ms : Nat}
/-- behind a call that changes nothing -/
theorem z_rdv {v : Value} (hr : va_Run p l e R s m args below meth c H locs cells slots 0 0 (F0 m pc ls st0) rest (zQr (some v) a) (fun _ => False))
    (kk : W p l e R s m args below meth c H locs cells slots Q (F0 m (pc + 3) ls (v :: rest))) : W p l e R s m args below meth c H locs cells slots Q (F0 m pc ls st0) := by
  intro T hT X
  obtain ⟨v', st₀, t, T', L, h0, X', hL, e1, -, ⟨hv, hh⟩, st⟩ := hr T hT X
  cases hv
  obtain ⟨t2, a1, b1⟩ := kk T' (by rw [e1, hh, h0]) (Stand.forget X' (fun q h => (hL q h).elim))
  exact ⟨t2, st t2 a1, b1⟩
theorem z_rdn (hr : va_Run p l e R s m args below meth c H locs cells slots 0 0 (F0 m pc ls st0) rest (zQr none a) (fun _ => False))
    (kk : W p l e R s m args below meth c H locs cells slots Q (F0 m (pc + 3) ls rest)) : W p l e R s m args below meth c H locs cells slots Q (F0 m pc ls st0) := by
  intro T hT X
  obtain ⟨v', st₀, t, T', L, h0, X', hL, e1, -, ⟨hv, hh⟩, st⟩ := hr T hT X
  cases hv
  obtain ⟨t2, a1, b1⟩ := kk T' (by rw [e1, hh, h0]) (Stand.forget X' (fun q h => (hL q h).elim))
  exact ⟨t2, st t2 a1, b1⟩
/-- behind a call that writes the cells at isC, of the segments S; the others stay -/
theorem z_mut0 {r : Option Value} {E : zE} {S Sc Sr : List va_W} {B : va_W → Prop} (hr : va_Run p l e R s m args below meth c H locs cells slots mc ms (F0 m pc ls st0) rest (zQ r (fun H1 => ∃ w1, B w1 ∧ zB E w1 (va_A Sc.flatten H.size) H1) (va_A Sc.flatten H.size) a) (va_A Sc.flatten H.size))
    (hP : va_P E.1 vwCl S.flatten H) (hD : va_D A0 S.flatten) (hS : va_S A0 H0 H locs) (hA : ∀ q, H0.size ≤ q → A0 q) (isC isR : List Nat) (hC : isC.map (fun i => S[i]?) = Sc.map some) (hR : isR.map (fun i => S[i]?) = Sr.map some) (hn : va_nd isR = true) (hdis : ∀ i ∈ isR, i ∉ isC)
    (kk : ∀ (w1 : va_W) (H1 : Heap) (locs1 : List Loc), B w1 → va_P E.1 vwCl (Sr.flatten ++ w1) H1 → va_D A0 (Sr.flatten ++ w1) → va_S A0 H0 H1 locs1 → H.size ≤ H1.size → (∀ q : Nat, q < H.size → ¬ va_A Sc.flatten H.size q → H1[q]? = H[q]?) → W p l e R s m args below meth c H1 locs1 (cells + mc) (slots + ms) Q (F0 m (pc + 3) ls (r.toList ++ rest))) :
    W p l e R s m args below meth c H locs cells slots Q (F0 m pc ls st0) := by
  intro T hT X
  obtain ⟨v', st₀, t, T', L, h0, X', hL, e1, -, ⟨hv, ⟨w1, hB, hP1, hD1⟩, hz, hk⟩, st⟩ := hr T hT X
  cases hv
  rw [h0] at hz hk
  have hF := zf_free hD hS hA isC hC
  rw [← e1] at hz hk hP1
  obtain ⟨k1, k2⟩ := zf_join hP hD isC isR hC hR hn hdis hF hk hP1 hD1
  obtain ⟨t2, a1, b1⟩ := kk w1 T'.heap (locs ++ L) hB k1 k2 ⟨Nat.le_trans hS.1 hz, fun q h1 h2 => by rw [hk q (Nat.lt_of_lt_of_le h1 hS.1) (fun z => h2 (hF q z))]; exact hS.2.1 q h1 h2, fun q hq => by
      rcases List.mem_append.mp hq with h | h
      · exact hS.2.2 q h
      · exact hF _ (hL q h)⟩ hz hk T' rfl X'
  exact ⟨t2, st t2 a1, b1⟩
theorem z_mut {r : Option Value} {E : zE} {S Sc Sr W1 : List va_W} (hr : va_Run p l e R s m args below meth c H locs cells slots mc ms (F0 m pc ls st0) rest (zQ r (zB E W1.flatten (va_A Sc.flatten H.size)) (va_A Sc.flatten H.size) a) (va_A Sc.flatten H.size))
    (hP : va_P E.1 vwCl S.flatten H) (hD : va_D A0 S.flatten) (hS : va_S A0 H0 H locs) (hA : ∀ q, H0.size ≤ q → A0 q) (isC isR : List Nat) (hC : isC.map (fun i => S[i]?) = Sc.map some) (hR : isR.map (fun i => S[i]?) = Sr.map some) (hn : va_nd isR = true) (hdis : ∀ i ∈ isR, i ∉ isC)
    (kk : ∀ (H1 : Heap) (locs1 : List Loc), va_P E.1 vwCl (Sr ++ W1).flatten H1 → va_D A0 (Sr ++ W1).flatten → va_S A0 H0 H1 locs1 → W p l e R s m args below meth c H1 locs1 (cells + mc) (slots + ms) Q (F0 m (pc + 3) ls (r.toList ++ rest))) :
    W p l e R s m args below meth c H locs cells slots Q (F0 m pc ls st0) := by
  have hr' : va_Run p l e R s m args below meth c H locs cells slots mc ms (F0 m pc ls st0) rest (zQ r (fun H1 => ∃ w1, w1 = W1.flatten ∧ zB E w1 (va_A Sc.flatten H.size) H1) (va_A Sc.flatten H.size) a) (va_A Sc.flatten H.size) := by
    intro T hT X
    obtain ⟨v', st₀, t, T', L, h0, X', hL, e1, e2, ⟨hv, hB, hz⟩, st⟩ := hr T hT X
    exact ⟨v', st₀, t, T', L, h0, X', hL, e1, e2, ⟨hv, ⟨_, rfl, hB⟩, hz⟩, st⟩
  refine z_mut0 hr' hP hD hS hA isC isR hC hR hn hdis (fun w H1 locs1 ew k1 k2 k3 _ _ => kk H1 locs1 ?_ ?_ k3)
  · rw [List.flatten_append, ← ew]; exact k1
  · rw [List.flatten_append, ← ew]; exact k2
/-- .. with new cells -/
theorem z_mutx {r : Option Value} {E : zE} {S Sc Sr : List va_W} {Sy : Type} {W1 : Sy → List va_W} (hr : va_Run p l e R s m args below meth c H locs cells slots mc ms (F0 m pc ls st0) rest (zQ r (fun H1 => ∃ u : Sy, zB E (W1 u).flatten (va_A Sc.flatten H.size) H1) (va_A Sc.flatten H.size) a) (va_A Sc.flatten H.size))
    (hP : va_P E.1 vwCl S.flatten H) (hD : va_D A0 S.flatten) (hS : va_S A0 H0 H locs) (hA : ∀ q, H0.size ≤ q → A0 q) (isC isR : List Nat) (hC : isC.map (fun i => S[i]?) = Sc.map some) (hR : isR.map (fun i => S[i]?) = Sr.map some) (hn : va_nd isR = true) (hdis : ∀ i ∈ isR, i ∉ isC)
    (kk : ∀ (u : Sy) (H1 : Heap) (locs1 : List Loc), va_P E.1 vwCl (Sr ++ W1 u).flatten H1 → va_D A0 (Sr ++ W1 u).flatten → va_S A0 H0 H1 locs1 → W p l e R s m args below meth c H1 locs1 (cells + mc) (slots + ms) Q (F0 m (pc + 3) ls (r.toList ++ rest))) :
    W p l e R s m args below meth c H locs cells slots Q (F0 m pc ls st0) := by
  have hr' : va_Run p l e R s m args below meth c H locs cells slots mc ms (F0 m pc ls st0) rest (zQ r (fun H1 => ∃ w1, (∃ u, w1 = (W1 u).flatten) ∧ zB E w1 (va_A Sc.flatten H.size) H1) (va_A Sc.flatten H.size) a) (va_A Sc.flatten H.size) := by
    intro T hT X
    obtain ⟨v', st₀, t, T', L, h0, X', hL, e1, e2, ⟨hv, ⟨u, hB⟩, hz⟩, st⟩ := hr T hT X
    exact ⟨v', st₀, t, T', L, h0, X', hL, e1, e2, ⟨hv, ⟨_, ⟨u, rfl⟩, hB⟩, hz⟩, st⟩
  refine z_mut0 hr' hP hD hS hA isC isR hC hR hn hdis (fun w H1 locs1 ew k1 k2 k3 _ _ => ?_)
  obtain ⟨u, ew⟩ := ew
  refine kk u H1 locs1 ?_ ?_ k3
  · rw [List.flatten_append, ← ew]; exact k1
  · rw [List.flatten_append, ← ew]; exact k2
/-! rows beside the kit's: an index by its number -/
theorem z_addI {x y : Int32} {a b : Nat} (ha : x = nI a) (hb : y = nI b) : x + y = nI (a + b) := by rw [ha, hb, nI_add]
theorem z_mulI {x y : Int32} {a b : Nat} (ha : x = nI a) (hb : y = nI b) : x * y = nI (a * b) := by rw [ha, hb, pk_mul]
theorem z_subI {x y : Int32} {a b : Nat} (ha : x = nI a) (hb : y = nI b) (h : b ≤ a) : x - y = nI (a - b) := by rw [ha, hb, pk_sub h]
theorem z_topi {x y : Int32} (h : x = y) (k : W p l e R s m args below meth c H locs cells slots Q (F0 m pc ls (.int y :: rest))) : W p l e R s m args below meth c H locs cells slots Q (F0 m pc ls (.int x :: rest)) := h ▸ k
theorem z_topl {x y : Int64} (h : x = y) (k : W p l e R s m args below meth c H locs cells slots Q (F0 m pc ls (.long y :: rest))) : W p l e R s m args below meth c H locs cells slots Q (F0 m pc ls (.long x :: rest)) := h ▸ k
theorem z_iald {cc : ByteArray} {E : zE} {ws : va_W} {aa n k : Nat} {f : Nat → Int32} {i : Int32} (hx : p.tables.exec = Jvm.exec) (hb : c.code = cc) (hK : va_K E.1 vwCl (zty E) s) (hP : va_P E.1 vwCl ws H) (q0 : Nat) (ha : ws[q0]? = some (aa, .inl (E.2 0, n, .inl f))) (hi : i = nI k) (hk : k < n) (hn : n < 2 ^ 31) (hdg : decode cc pc = .ok (.iaload, 1))
    (kk : W p l e R s m args below meth c H locs cells slots Q (F0 m (pc + 1) ls (.int (f k) :: rest))) : W p l e R s m args below meth c H locs cells slots Q (F0 m pc ls (.int i :: .ref aa :: rest)) := by
  subst hi
  refine va_iald hx hb hK hP q0 0 ha rfl (vp_in_nI hk hn) hdg ?_
  rw [nI_clamp (Nat.lt_trans hk hn)]
  exact kk
theorem z_aldq {cc : ByteArray} {E : zE} {ws : va_W} {aa n k : Nat} {f : Nat → Option Nat} {i : Int32} (hx : p.tables.exec = Jvm.exec) (hb : c.code = cc) (hK : va_K E.1 vwCl (zty E) s) (hP : va_P E.1 vwCl ws H) (q0 : Nat) (ha : ws[q0]? = some (aa, .inl (E.2 2, n, .inr (.inr (.inr (.inr f)))))) (hi : i = nI k) (hk : k < n) (hn : n < 2 ^ 31) (hdg : decode cc pc = .ok (.aaload, 1))
    (kk : W p l e R s m args below meth c H locs cells slots Q (F0 m (pc + 1) ls (va_rf (f k) :: rest))) : W p l e R s m args below meth c H locs cells slots Q (F0 m pc ls (.int i :: .ref aa :: rest)) := by
  subst hi
  refine va_aldq hx hb hK hP q0 2 ha rfl (vp_in_nI hk hn) hdg ?_
  rw [nI_clamp (Nat.lt_trans hk hn)]
  exact kk
theorem z_iast {cc : ByteArray} {E : zE} {ws : va_W} {aa n k : Nat} {f : Nat → Int32} {i x : Int32} (hx : p.tables.exec = Jvm.exec) (hb : c.code = cc) (hK : va_K E.1 vwCl (zty E) s) (hP : va_P E.1 vwCl ws H) (hD : va_D A0 ws) (hS : va_S A0 H0 H locs) (q0 : Nat) (ha : ws[q0]? = some (aa, .inl (E.2 0, n, .inl f))) (hi : i = nI k) (hk : k < n) (hn : n < 2 ^ 31) (hdg : decode cc pc = .ok (.iastore, 1))
    (kk : ∀ (H1 : Heap) (locs1 : List Loc), va_P E.1 vwCl (ws.set q0 (aa, .inl (E.2 0, n, .inl (upd f k x)))) H1 → va_D A0 (ws.set q0 (aa, .inl (E.2 0, n, .inl (upd f k x)))) → va_S A0 H0 H1 locs1 → W p l e R s m args below meth c H1 locs1 cells slots Q (F0 m (pc + 1) ls rest)) : W p l e R s m args below meth c H locs cells slots Q (F0 m pc ls (.int x :: .int i :: .ref aa :: rest)) := by
  subst hi
  refine va_iast hx hb hK hP hD hS q0 0 ha rfl (vp_in_nI hk hn) hdg ?_
  rw [nI_clamp (Nat.lt_trans hk hn)]
  exact kk
theorem z_topv {x y : Value} (h : x = y) (k : W p l e R s m args below meth c H locs cells slots Q (F0 m pc ls (y :: rest))) : W p l e R s m args below meth c H locs cells slots Q (F0 m pc ls (x :: rest)) := h ▸ k
theorem z_astq {cc : ByteArray} {E : zE} {ws : va_W} {aa n k v : Nat} {vs : List Value} {f : Nat → Option Nat} {i : Int32} (hx : p.tables.exec = Jvm.exec) (hb : c.code = cc) (hK : va_K E.1 vwCl (zty E) s) (hP : va_P E.1 vwCl ws H) (hD : va_D A0 ws) (hS : va_S A0 H0 H locs) (q0 qk : Nat) (ha : ws[q0]? = some (aa, .inl (E.2 2, n, .inr (.inr (.inr (.inr f)))))) (hv : ws[qk]? = some (v, .inr (4, vs))) (hi : i = nI k) (hk : k < n) (hn : n < 2 ^ 31) (hdg : decode cc pc = .ok (.aastore, 1))
    (kk : ∀ (H1 : Heap) (locs1 : List Loc), va_P E.1 vwCl (ws.set q0 (aa, .inl (E.2 2, n, .inr (.inr (.inr (.inr (va_up f k (some v)))))))) H1 → va_D A0 (ws.set q0 (aa, .inl (E.2 2, n, .inr (.inr (.inr (.inr (va_up f k (some v)))))))) → va_S A0 H0 H1 locs1 → W p l e R s m args below meth c H1 locs1 cells slots Q (F0 m (pc + 1) ls rest)) : W p l e R s m args below meth c H locs cells slots Q (F0 m pc ls (.ref v :: .int i :: .ref aa :: rest)) := by
  subst hi
  refine va_astq (r := (RX5, TX5, 10)) hx hb hK hP hD hS q0 2 qk 4 ha rfl hv rfl (vp_in_nI hk hn) hdg ?_
  rw [nI_clamp (Nat.lt_trans hk hn)]
  exact kk
theorem zP_nil {E : zE} : va_P E.1 vwCl [] H := fun k q h => by simp at h
def m_cp (n : Nat) (f g : Nat → Int32) : Nat → Int32 := fun j => if j < n then f j else g j
theorem m_cp_eq (n : Nat) (f g : Nat → Int32) : va_cpy f g 0 0 n = m_cp n f g := by
  funext j
  simp [va_cpy, m_cp]
theorem z_copy {cc : ByteArray} {E : zE} {ws : va_W} {aa a0 n0 n1 k : Nat} {f g : Nat → Int32} {i : Int32} (hx : p.tables.exec = Jvm.exec) (hb : c.code = cc) (hml : c.maxLocals = ls.size) {own : String} {index : Nat} (hown : s.vm.findClass own = some m.cls) (hlink : (Cond.methodLink own index arraycopyName).before args s = true) (hnat : (Cond.native arraycopyName).before args s = true) (hstat : (Cond.static arraycopyName).before args s = true) (hini : (Cond.initialized "java/lang/System").before args s = true)
    (hK : va_K E.1 vwCl (zty E) s) (hP : va_P E.1 vwCl ws H) (hD : va_D A0 ws) (hS : va_S A0 H0 H locs) (q0 q1 : Nat) (ha0 : ws[q0]? = some (a0, .inl (E.2 0, n0, .inl f))) (ha1 : ws[q1]? = some (aa, .inl (E.2 0, n1, .inl g))) (hi : i = nI k) (hk : k ≤ n0 ∧ k ≤ n1 ∧ k < 2 ^ 31)
    (hframes : 1 ≤ R.frames) (hlocals : (rest.map fun v => v.category).sum + (nativeFrameWords "java/lang/System" "arraycopy" 5 + 11) ≤ R.locals) (hdg : decode cc pc = .ok (.invokestatic index, 3))
    (kk : ∀ (H1 : Heap) (locs1 : List Loc), va_P E.1 vwCl (ws.set q1 (aa, .inl (E.2 0, n1, .inl (m_cp k f g)))) H1 → va_D A0 (ws.set q1 (aa, .inl (E.2 0, n1, .inl (m_cp k f g)))) → va_S A0 H0 H1 locs1 → W p l e R s m args below meth c H1 locs1 cells slots Q (F0 m (pc + 3) ls rest)) : W p l e R s m args below meth c H locs cells slots Q (F0 m pc ls (.int i :: .int 0 :: .ref aa :: .int 0 :: .ref a0 :: rest)) := by
  subst hi
  have e0 : (0 : Int32).toNatClampNeg = 0 := rfl
  refine va_copyi hx hb hml hown hlink hnat hstat hini hK hP hD hS q0 q1 0 0 ha0 ha1 rfl rfl rfl (by decide) (by decide) (nI_pos hk.2.2) (by rw [nI_clamp hk.2.2, e0]; omega) (by rw [nI_clamp hk.2.2, e0]; omega) (fun _ _ => rfl) hframes hlocals hdg ?_
  rw [nI_clamp hk.2.2, e0, m_cp_eq]
  exact kk
theorem z_cy0 {E : zE} {cA : ClassId} (h : va_K E.1 vwCl (zty E ++ [(cA, .int)]) s) : cA = E.2 0 := by
  have h1 := (h.2 0 _ rfl).2
  have h2 := (h.2 4 _ rfl).2
  exact Option.some.inj (Eq.trans (Eq.symm h2) h1)
theorem z_cy2 {E : zE} {cA : ClassId} (h : va_K E.1 vwCl (zty E ++ [(cA, .object RX5)]) s) : cA = E.2 2 := by
  obtain ⟨_, _, _, _, _, h1⟩ := (h.2 2 _ rfl).2
  obtain ⟨_, _, _, _, _, h2⟩ := (h.2 4 _ rfl).2
  exact Option.some.inj (Eq.trans (Eq.symm h2) h1)
theorem zf_snoc {D : va_G} {cl : List vw_C} {S : List va_W} {w : va_W} (h : va_P D cl (S.flatten ++ w) H) : va_P D cl (S ++ [w]).flatten H := by
  rw [List.flatten_append]; simpa using h
theorem zf_snocD {A : Nat → Prop} {S : List va_W} {w : va_W} (h : va_D A (S.flatten ++ w)) : va_D A (S ++ [w]).flatten := by
  rw [List.flatten_append]; simpa using h
/-! the heads and the ends of methods -/
theorem z_start {y : MethodName} {ws ws' : List Cond} {rm : Room} {E : zE} {av : List Value} {w0 : va_W} {r : Option Value} {w1 : va_W} {mc ms : Nat} {cc : ByteArray} {maxL : Nat} {ret : Option FieldType} (hy : plainName y.cls = true) (hw : ws = Cond.code y cc maxL ret :: ws') (hlen : (lg_sl av).length ≤ maxL)
    (body : ∀ (p : Program) (e : Env) (s : State) (m : MethodId) (below : List Frame) (meth : Method) (c : Code) (A : Nat → Prop), p.tables.exec = Jvm.exec → c.code = cc → meth.sig.returnType = ret → (∀ w ∈ ws, w.before av.toArray s = true) → s.vm.findClass y.cls = some m.cls → meth.locks = false → meth.name = y.name → c.maxLocals = maxL → (∀ q, s.heap.size ≤ q → A q) → ∀ H : Heap, H = s.heap → va_P E.1 vwCl w0 H → zK E s → va_D A w0 → va_S A s.heap H [] →
      ∀ ls : Array Slot, lv_has ls maxL (lv_args 0 av) → W p l e rm s m av.toArray below meth c H [] 0 0 (MQ below (zQ r (zB E w1 A) A) av.toArray s mc ms A) (F0 m 0 ls [])) : zM l y ws rm E av w0 r w1 mc ms := by
  intro sz
  refine Met.ofW (cc := cc) (maxL := maxL) (ret := ret) hy hw ?_
  intro p e s m args below meth c s₁ B hml hv
  obtain ⟨rfl, hsz, hP, hK, hD0⟩ := hv
  subst hsz
  have hts := atoms_spec (ws := ws) B.pre
  have hD := hD0.self (sz := s.heap.size)
  generalize hAe : va_A w0 s.heap.size = A at hD ⊢
  rw [lg_entry_eq]
  exact body p e s m below meth c A B.exec B.bytes B.returns hts (findClass_of_methodNamed B.named) B.notSynchronized (name_of_methodNamed B.named B.method).1 hml (fun q h => by rw [← hAe]; exact Or.inr h) _ rfl hP hK hD va_S.rf _ (lv_entry av hlen)
theorem z_startx {y : MethodName} {ws ws' : List Cond} {rm : Room} {E : zE} {av : List Value} {w0 : va_W} {r : Option Value} {Sy : Type} {w1 : Sy → va_W} {mc ms : Nat} {cc : ByteArray} {maxL : Nat} {ret : Option FieldType} (hy : plainName y.cls = true) (hw : ws = Cond.code y cc maxL ret :: ws') (hlen : (lg_sl av).length ≤ maxL)
    (body : ∀ (p : Program) (e : Env) (s : State) (m : MethodId) (below : List Frame) (meth : Method) (c : Code) (A : Nat → Prop), p.tables.exec = Jvm.exec → c.code = cc → meth.sig.returnType = ret → (∀ w ∈ ws, w.before av.toArray s = true) → s.vm.findClass y.cls = some m.cls → meth.locks = false → meth.name = y.name → c.maxLocals = maxL → (∀ q, s.heap.size ≤ q → A q) → ∀ H : Heap, H = s.heap → va_P E.1 vwCl w0 H → zK E s → va_D A w0 → va_S A s.heap H [] →
      ∀ ls : Array Slot, lv_has ls maxL (lv_args 0 av) → W p l e rm s m av.toArray below meth c H [] 0 0 (MQ below (zQ r (fun H => ∃ u : Sy, zB E (w1 u) A H) A) av.toArray s mc ms A) (F0 m 0 ls [])) : zX l y ws rm E av w0 r w1 mc ms := by
  intro sz
  refine Met.ofW (cc := cc) (maxL := maxL) (ret := ret) hy hw ?_
  intro p e s m args below meth c s₁ B hml hv
  obtain ⟨rfl, hsz, hP, hK, hD0⟩ := hv
  subst hsz
  have hts := atoms_spec (ws := ws) B.pre
  have hD := hD0.self (sz := s.heap.size)
  generalize hAe : va_A w0 s.heap.size = A at hD ⊢
  rw [lg_entry_eq]
  exact body p e s m below meth c A B.exec B.bytes B.returns hts (findClass_of_methodNamed B.named) B.notSynchronized (name_of_methodNamed B.named B.method).1 hml (fun q h => by rw [← hAe]; exact Or.inr h) _ rfl hP hK hD va_S.rf _ (lv_entry av hlen)
theorem z_startr {y : MethodName} {ws ws' : List Cond} {rm : Room} {E : zE} {av : List Value} {w0 : va_W} {r : Option Value} {cc : ByteArray} {maxL : Nat} {ret : Option FieldType} (hy : plainName y.cls = true) (hw : ws = Cond.code y cc maxL ret :: ws') (hlen : (lg_sl av).length ≤ maxL)
    (body : ∀ (p : Program) (e : Env) (s : State) (m : MethodId) (below : List Frame) (meth : Method) (c : Code), p.tables.exec = Jvm.exec → c.code = cc → meth.sig.returnType = ret → (∀ w ∈ ws, w.before av.toArray s = true) → s.vm.findClass y.cls = some m.cls → meth.locks = false → c.maxLocals = maxL → va_P E.1 vwCl w0 s.heap → zK E s →
      ∀ ls : Array Slot, lv_has ls maxL (lv_args 0 av) → W p l e rm s m av.toArray below meth c s.heap [] 0 0 (MQ below (zQr r) av.toArray s 0 0 (fun _ => False)) (F0 m 0 ls [])) : zR l y ws rm E av w0 r := by
  refine Met.ofW (cc := cc) (maxL := maxL) (ret := ret) hy hw ?_
  intro p e s m args below meth c s₁ B hml hv
  obtain ⟨rfl, hP, hK⟩ := hv
  have hts := atoms_spec (ws := ws) B.pre
  rw [lg_entry_eq]
  exact body p e s m below meth c B.exec B.bytes B.returns hts (findClass_of_methodNamed B.named) B.notSynchronized hml hP hK _ (lv_entry av hlen)
theorem z_endR {r : Option Value} : ∀ t : State, t.heap = s.heap → s.WarmedH t.vm → zQr r args s (.returned r) t := fun _ h _ => ⟨rfl, h⟩
theorem z_end {E : zE} {A : Nat → Prop} {r : Option Value} {w w1 : va_W} (hP : va_P E.1 vwCl w H) (hD : va_D A w) (hS : va_S A s.heap H locs) (hw : w = w1) : ∀ t : State, t.heap = H → s.WarmedH t.vm → zQ r (zB E w1 A) A args s (.returned r) t :=
  fun t ht _ => ⟨rfl, ⟨by rw [ht]; exact hw ▸ hP, hw ▸ hD⟩, hS.F ht⟩
theorem z_endx {E : zE} {A : Nat → Prop} {r : Option Value} {Sy : Type} (u : Sy) {w1 : Sy → va_W} {w : va_W} (hP : va_P E.1 vwCl w H) (hD : va_D A w) (hS : va_S A s.heap H locs) (hw : w = w1 u) : ∀ t : State, t.heap = H → s.WarmedH t.vm → zQ r (fun H => ∃ u : Sy, zB E (w1 u) A H) A args s (.returned r) t :=
  fun t ht _ => ⟨rfl, ⟨u, by rw [ht]; exact hw ▸ hP, hw ▸ hD⟩, hS.F ht⟩
end ZC

