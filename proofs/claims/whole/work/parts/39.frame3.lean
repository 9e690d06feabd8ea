/-! the law's own methods: they call a watch's method that may throw, and catch it -/
def zPT (E : zE) (sa : Nat → Nat) (av : List Value) (sz : Nat) (w : va_W) : Array Value → State → Prop := va_Pc av (fun U => U.heap.size = sz ∧ va_P E.1 vwCl w U.heap ∧ zK E U ∧ va_D (fun _ => True) w ∧ zT sa U ∧ zZ (va_A w sz) U U.heap ∧ va_Nc zIS zIA U)
theorem zPT.blind {E : zE} {sa : Nat → Nat} {av : List Value} {sz : Nat} {w : va_W} : FrameBlind (zPT E sa av sz w) := fun _ U _ _ q =>
  ⟨q.1, q.2.1, q.2.2.1, q.2.2.2.1.calling, q.2.2.2.2.1, zT.same rfl q.2.2.2.2.2.1, ⟨vx_Zq.moved (Vm.Alike.refl U.vm) q.2.2.2.2.2.2.1.1, vx_Zq.moved (Vm.Alike.refl U.vm) q.2.2.2.2.2.2.1.2⟩, va_Nc.moved (u := U) (Vm.Alike.refl U.vm) q.2.2.2.2.2.2.2⟩
def zMT (l : Launch) (y : MethodName) (ws : List Cond) (rm : Room) (E : zE) (sa : Nat → Nat) (av : List Value) (w0 : va_W) (r : Option Value) (w1 : va_W) (mc ms : Nat) : Prop :=
  ∀ sz : Nat, Met l y ws rm (zPT E sa av sz w0) (zQ r (zB E w1 (va_A w0 sz)) (va_A w0 sz)) mc ms (va_A w0 sz)
theorem z_preT {E : zE} {sa : Nat → Nat} {s : State} {H : Heap} {w : va_W} {A : Nat → Prop} {av : List Value} {locs : List Loc} (hK : zK E s) (hT : zT sa s) (hN : va_Nc zIS zIA s) (hZ : zZ A s s.heap) (hS : va_S A s.heap H locs) (hF : ∀ q, va_A w H.size q → A q) (hP : va_P E.1 vwCl w H) (hD : va_D A w) : ∀ U : State, U.heap = H → s.WarmedH U.vm → zPT E sa av H.size w av.toArray U :=
  fun U hU hW => ⟨rfl, by rw [hU], by rw [hU]; exact hP, hK.warm hW, hD.weaken (fun _ _ _ _ => trivial), hT.warm hW, by
    rw [hU]
    exact ⟨vx_Zq.moved hW.alike ((hZ.1.kept hS.2.1).narrow hF), vx_Zq.moved hW.alike ((hZ.2.kept hS.2.1).narrow hF)⟩, va_Nc.moved hW.alike hN⟩
theorem z_startw {l : Launch} {y : MethodName} {ws ws' : List Cond} {rm : Room} {E : zE} {sa : Nat → Nat} {av : List Value} {w0 : va_W} {r : Option Value} {w1 : va_W} {mc ms : Nat} {cc : ByteArray} {maxL : Nat} {ret : Option FieldType} {hh : List (Nat × Nat × Nat × Nat)} (hy : plainName y.cls = true) (hw : ws = Cond.codeWith y cc maxL ret hh :: ws') (hlen : (lg_sl av).length ≤ maxL)
    (body : ∀ (p : Program) (e : Env) (s : State) (m : MethodId) (below : List Frame) (meth : Method) (c : Code) (A : Nat → Prop), p.tables.exec = Jvm.exec → c.code = cc → meth.sig.returnType = ret → (∀ w ∈ ws, w.before av.toArray s = true) → s.vm.findClass y.cls = some m.cls → meth.locks = false → c.maxLocals = maxL → c.exceptionTable.toList = tableOf hh → (∀ q, s.heap.size ≤ q → A q) → zT sa s → zZ A s s.heap → va_Nc zIS zIA s → ∀ H : Heap, H = s.heap → va_P E.1 vwCl w0 H → zK E s → va_D A w0 → va_S A s.heap H [] →
      ∀ ls : Array Slot, lv_has ls maxL (lv_args 0 av) → W p l e rm s m av.toArray below meth c H [] 0 0 (MQ below (zQ r (zB E w1 A) A) av.toArray s mc ms A) (F0 m 0 ls [])) : zMT l y ws rm E sa av w0 r w1 mc ms := by
  intro sz
  refine va_MetW (cc := cc) (maxL := maxL) (ret := ret) (hh := hh) hy hw ?_
  intro p e s m args below meth c s₁ B hml hv
  obtain ⟨rfl, hsz, hP, hK, hD0, hT, hZ, hN⟩ := hv
  subst hsz
  have hts := atoms_spec (ws := ws) B.pre
  have htab : c.exceptionTable.toList = tableOf hh := vx_table (x := y) (y := y) (bytes := cc) (maxL' := maxL) (ret' := ret) B (hts _ (by rw [hw]; exact List.mem_cons_self))
  have hD := hD0.self (sz := s.heap.size)
  generalize hAe : va_A w0 s.heap.size = A at hD hZ ⊢
  rw [lg_entry_eq]
  exact body p e s m below meth c A B.exec B.bytes B.returns hts (findClass_of_methodNamed B.named) B.notSynchronized hml htab (fun q h => by rw [← hAe]; exact Or.inr h) hT hZ hN _ rfl hP hK hD va_S.rf _ (lv_entry av hlen)
/-! the law's script -/
section ZS
variable {p : Program} {l : Launch} {e : Env} {R : Room} {s : State} {m : MethodId} {args : Array Value} {below : List Frame} {meth : Method} {c : Code} {H : Heap} {locs : List Loc} {cells slots : Nat} {Q : State → Prop}
variable {pc : Nat} {ls : Array Slot} {rest : List Value} {A0 : Nat → Prop}
theorem z_sld {cc : ByteArray} (hx : p.tables.exec = Jvm.exec) (hb : c.code = cc) {b L k : Nat} {xs : Nat → Int32} {x i : Int32} (hX : va_X b L xs s s.heap) (hbl : b < s.heap.size) (hbA : ¬ A0 b) (hS : va_S A0 s.heap H locs) (hi : i = nI k) (hk : k < L) (hL : L ≤ 1536) (hv : xs k = x) (hdg : decode cc pc = .ok (.iaload, 1))
    (kk : W p l e R s m args below meth c H locs cells slots Q (F0 m (pc + 1) ls (.int x :: rest))) : W p l e R s m args below meth c H locs cells slots Q (F0 m pc ls (.int i :: .ref b :: rest)) := by
  subst hi hv
  refine va_sld hx hb hX hbl hbA hS (vp_in_nI hk (by omega)) hdg ?_
  rw [nI_clamp (by omega)]
  exact kk
theorem z_lcs (x : Int64) : lg_cmp x x = 0 := by
  unfold lg_cmp
  simp
end ZS
