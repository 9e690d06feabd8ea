/-! the law's own methods: some read the script, one leaves the watch in a state that is told by a property -/
def zRs (l : Launch) (y : MethodName) (ws : List Cond) (rm : Room) (b L : Nat) (xs : Nat → Int32) (av : List Value) (r : Option Value) : Prop :=
  Met l y ws rm (va_Pc av (fun U => va_X b L xs U U.heap ∧ b < U.heap.size)) (zQr r) 0 0 (fun _ => False)
theorem zRs.blind {b L : Nat} {xs : Nat → Int32} {av : List Value} : FrameBlind (va_Pc av (fun U => va_X b L xs U U.heap ∧ b < U.heap.size)) := fun _ U _ _ q => ⟨q.1, va_X.moved (u := U) (Vm.Alike.refl U.vm) q.2.1, q.2.2⟩
theorem z_prers {b L : Nat} {xs : Nat → Int32} {av : List Value} {s : State} {H : Heap} {A : Nat → Prop} {locs : List Loc} (hX : va_X b L xs s s.heap) (hbl : b < s.heap.size) (hbA : ¬ A b) (hS : va_S A s.heap H locs) : ∀ U : State, U.heap = H → s.WarmedH U.vm → va_Pc av (fun U => va_X b L xs U U.heap ∧ b < U.heap.size) av.toArray U :=
  fun U hU hW => ⟨rfl, by rw [hU]; exact va_X.moved hW.alike (va_X.kept hX (hS.2.1 b hbl hbA)), by rw [hU]; exact Nat.lt_of_lt_of_le hbl hS.1⟩
theorem z_startrs {l : Launch} {y : MethodName} {ws ws' : List Cond} {rm : Room} {b L : Nat} {xs : Nat → Int32} {av : List Value} {r : Option Value} {cc : ByteArray} {maxL : Nat} {ret : Option FieldType} (hy : plainName y.cls = true) (hw : ws = Cond.code y cc maxL ret :: ws') (hlen : (lg_sl av).length ≤ maxL)
    (body : ∀ (p : Program) (e : Env) (s : State) (m : MethodId) (below : List Frame) (meth : Method) (c : Code), p.tables.exec = Jvm.exec → c.code = cc → meth.sig.returnType = ret → (∀ w ∈ ws, w.before av.toArray s = true) → s.vm.findClass y.cls = some m.cls → meth.locks = false → c.maxLocals = maxL → va_X b L xs s s.heap → b < s.heap.size →
      ∀ ls : Array Slot, lv_has ls maxL (lv_args 0 av) → W p l e rm s m av.toArray below meth c s.heap [] 0 0 (MQ below (zQr r) av.toArray s 0 0 (fun _ => False)) (F0 m 0 ls [])) : zRs l y ws rm b L xs av r := by
  refine Met.ofW (cc := cc) (maxL := maxL) (ret := ret) hy hw ?_
  intro p e s m args below meth c s₁ B hml hv
  obtain ⟨rfl, hX, hbl⟩ := hv
  have hts := atoms_spec (ws := ws) B.pre
  rw [lg_entry_eq]
  exact body p e s m below meth c B.exec B.bytes B.returns hts (findClass_of_methodNamed B.named) B.notSynchronized hml hX hbl _ (lv_entry av hlen)
def zPS (E : zE) (sa : Nat → Nat) (av : List Value) (sz b L : Nat) (xs : Nat → Int32) : Array Value → State → Prop := fun a U => zPE E sa av sz [] a U ∧ va_X b L xs U U.heap ∧ b < U.heap.size
theorem zPS.blind {E : zE} {sa : Nat → Nat} {av : List Value} {sz b L : Nat} {xs : Nat → Int32} : FrameBlind (zPS E sa av sz b L xs) := fun a U g mk q => ⟨zPE.blind a U g mk q.1, va_X.moved (u := U) (Vm.Alike.refl U.vm) q.2.1, q.2.2⟩
def zMS (l : Launch) (y : MethodName) (ws : List Cond) (rm : Room) (E : zE) (sa : Nat → Nat) (b L : Nat) (xs : Nat → Int32) (av : List Value) (r : Option Value) (mc ms : Nat) : Prop :=
  ∀ sz : Nat, vx_Met l y ws rm (zPS E sa av sz b L xs) (zQ r (fun H => True ∧ zB E ([] : List va_W).flatten (va_A ([] : List va_W).flatten sz) H) (va_A ([] : List va_W).flatten sz)) (zXC E ([] : List va_W).flatten (fun _ => False) (va_A ([] : List va_W).flatten sz)) mc ms (va_A ([] : List va_W).flatten sz)
theorem z_preS {E : zE} {sa : Nat → Nat} {s : State} {H : Heap} {A : Nat → Prop} {av : List Value} {locs : List Loc} {b L : Nat} {xs : Nat → Int32} (hK : zK E s) (hT : zT sa s) (hZ : zZ A s s.heap) (hS : va_S A s.heap H locs) (hF : ∀ q, va_A ([] : List va_W).flatten H.size q → A q) (hX : va_X b L xs s s.heap) (hbl : b < s.heap.size) (hbA : ¬ A b) : ∀ U : State, U.heap = H → s.WarmedH U.vm → zPS E sa av H.size b L xs av.toArray U :=
  fun U hU hW => ⟨z_preE (w := []) hK hT hZ hS hF zP_nil ⟨fun i j p q h => by simp at h, fun k q h => by simp at h⟩ U hU hW, z_prers (av := av) hX hbl hbA hS U hU hW |>.2⟩
theorem z_startS {l : Launch} {y : MethodName} {ws ws' : List Cond} {rm : Room} {E : zE} {sa : Nat → Nat} {b L : Nat} {xs : Nat → Int32} {av : List Value} {r : Option Value} {mc ms : Nat} {cc : ByteArray} {maxL : Nat} {ret : Option FieldType} (hy : plainName y.cls = true) (hw : ws = Cond.code y cc maxL ret :: ws') (hlen : (lg_sl av).length ≤ maxL)
    (body : ∀ (p : Program) (e : Env) (s : State) (m : MethodId) (below : List Frame) (meth : Method) (c : Code) (A : Nat → Prop), p.tables.exec = Jvm.exec → c.code = cc → meth.sig.returnType = ret → (∀ w ∈ ws, w.before av.toArray s = true) → s.vm.findClass y.cls = some m.cls → meth.locks = false → c.maxLocals = maxL → (∀ x ∈ c.exceptionTable.toList, False) → (∀ q, s.heap.size ≤ q → A q) → zT sa s → zZ A s s.heap → ∀ H : Heap, H = s.heap → va_P E.1 vwCl ([] : List va_W).flatten H → zK E s → va_D A ([] : List va_W).flatten → va_S A s.heap H [] → va_X b L xs s s.heap → b < s.heap.size → ¬ A b →
      ∀ ls : Array Slot, lv_has ls maxL (lv_args 0 av) → W p l e rm s m av.toArray below meth c H [] 0 0 (vx_MQ below (zQ r (fun H => True ∧ zB E ([] : List va_W).flatten A H) A) (zXC E ([] : List va_W).flatten (fun _ => False) A) av.toArray s mc ms A) (F0 m 0 ls [])) : zMS l y ws rm E sa b L xs av r mc ms := by
  intro sz
  refine vx_ofW (cc := cc) (maxL := maxL) (ret := ret) hy hw ?_
  intro p e s m args below meth c s₁ B hml hnt hv
  obtain ⟨⟨rfl, hsz, hP, hK, hD0, hT, hZ⟩, hX, hbl⟩ := hv
  subst hsz
  have hts := atoms_spec (ws := ws) B.pre
  have hbA : ¬ va_A ([] : List va_W).flatten s.heap.size b := by
    rintro (⟨k, e, h⟩ | h)
    · simp at h
    · omega
  have hA : ∀ q, s.heap.size ≤ q → va_A ([] : List va_W).flatten s.heap.size q := fun q h => Or.inr h
  have hD : va_D (va_A ([] : List va_W).flatten s.heap.size) ([] : List va_W).flatten := hD0.self (sz := s.heap.size)
  have hZ : zZ (va_A ([] : List va_W).flatten s.heap.size) s s.heap := hZ
  generalize va_A ([] : List va_W).flatten s.heap.size = A at hD hZ hbA hA ⊢
  rw [lg_entry_eq]
  exact body p e s m below meth c A B.exec B.bytes B.returns hts (findClass_of_methodNamed B.named) B.notSynchronized hml hnt hA hT hZ _ rfl hP hK hD va_S.rf hX hbl hbA _ (lv_entry av hlen)
def zMY (l : Launch) (y : MethodName) (ws : List Cond) (rm : Room) (E : zE) (sa : Nat → Nat) (av : List Value) (w0 : va_W) (r : Option Value) {Sy : Type} (Ph : Sy → Prop) (w1 : Sy → va_W) (mc ms : Nat) : Prop :=
  ∀ sz : Nat, vx_Met l y ws rm (zPE E sa av sz w0) (zQ r (fun H => ∃ u : Sy, Ph u ∧ zB E (w1 u) (va_A w0 sz) H) (va_A w0 sz)) (zXC E w0 (fun _ => False) (va_A w0 sz)) mc ms (va_A w0 sz)
theorem z_starty {l : Launch} {y : MethodName} {ws ws' : List Cond} {rm : Room} {E : zE} {sa : Nat → Nat} {av : List Value} {w0 : va_W} {r : Option Value} {Sy : Type} {Ph : Sy → Prop} {w1 : Sy → va_W} {mc ms : Nat} {cc : ByteArray} {maxL : Nat} {ret : Option FieldType} (hy : plainName y.cls = true) (hw : ws = Cond.code y cc maxL ret :: ws') (hlen : (lg_sl av).length ≤ maxL)
    (body : ∀ (p : Program) (e : Env) (s : State) (m : MethodId) (below : List Frame) (meth : Method) (c : Code) (A : Nat → Prop), p.tables.exec = Jvm.exec → c.code = cc → meth.sig.returnType = ret → (∀ w ∈ ws, w.before av.toArray s = true) → s.vm.findClass y.cls = some m.cls → meth.locks = false → c.maxLocals = maxL → (∀ x ∈ c.exceptionTable.toList, False) → (∀ q, s.heap.size ≤ q → A q) → zT sa s → zZ A s s.heap → ∀ H : Heap, H = s.heap → va_P E.1 vwCl w0 H → zK E s → va_D A w0 → va_S A s.heap H [] →
      ∀ ls : Array Slot, lv_has ls maxL (lv_args 0 av) → W p l e rm s m av.toArray below meth c H [] 0 0 (vx_MQ below (zQ r (fun H => ∃ u : Sy, Ph u ∧ zB E (w1 u) A H) A) (zXC E w0 (fun _ => False) A) av.toArray s mc ms A) (F0 m 0 ls [])) : zMY l y ws rm E sa av w0 r Ph w1 mc ms := by
  intro sz
  refine vx_ofW (cc := cc) (maxL := maxL) (ret := ret) hy hw ?_
  intro p e s m args below meth c s₁ B hml hnt hv
  obtain ⟨rfl, hsz, hP, hK, hD0, hT, hZ⟩ := hv
  subst hsz
  have hts := atoms_spec (ws := ws) B.pre
  have hD := hD0.self (sz := s.heap.size)
  generalize hAe : va_A w0 s.heap.size = A at hD hZ ⊢
  rw [lg_entry_eq]
  exact body p e s m below meth c A B.exec B.bytes B.returns hts (findClass_of_methodNamed B.named) B.notSynchronized hml hnt (fun q h => by rw [← hAe]; exact Or.inr h) hT hZ _ rfl hP hK hD va_S.rf _ (lv_entry av hlen)
section ZY
variable {p : Program} {l : Launch} {e : Env} {R : Room} {s : State} {m : MethodId} {args : Array Value} {below : List Frame} {meth : Method} {c : Code} {H : Heap} {locs : List Loc} {cells slots : Nat} {Q : State → Prop}
variable {pc : Nat} {ls : Array Slot} {rest st0 : List Value} {a : Array Value} {A0 : Nat → Prop} {H0 : Heap} {mc ms : Nat}
theorem z_endy {E : zE} {A : Nat → Prop} {r : Option Value} {Sy : Type} {Ph : Sy → Prop} {w1 : Sy → va_W} (u : Sy) {w : va_W} (h : Ph u) (hP : va_P E.1 vwCl w H) (hD : va_D A w) (hS : va_S A s.heap H locs) (hw : w = w1 u) : ∀ t : State, t.heap = H → s.WarmedH t.vm → zQ r (fun H => ∃ u : Sy, Ph u ∧ zB E (w1 u) A H) A args s (.returned r) t :=
  fun t ht _ => ⟨rfl, ⟨u, h, by rw [ht]; exact hw ▸ hP, hw ▸ hD⟩, hS.F ht⟩
theorem z_ymut {r : Option Value} {E : zE} {Sy : Type} {Ph : Sy → Prop} {S Sc Sr : List va_W} {W1 : Sy → List va_W} (hr : vx_Run p l e R s m args below meth c H locs cells slots mc ms (F0 m pc ls st0) rest (zQ r (fun H1 => ∃ u : Sy, Ph u ∧ zB E (W1 u).flatten (va_A Sc.flatten H.size) H1) (va_A Sc.flatten H.size) a) (zXC E Sc.flatten (fun _ => False) (va_A Sc.flatten H.size)) (va_A Sc.flatten H.size))
    (hP : va_P E.1 vwCl S.flatten H) (hD : va_D A0 S.flatten) (hS : va_S A0 H0 H locs) (hA : ∀ q, H0.size ≤ q → A0 q) (isC isR : List Nat) (hC : isC.map (fun i => S[i]?) = Sc.map some) (hR : isR.map (fun i => S[i]?) = Sr.map some) (hn : va_nd isR = true) (hdis : ∀ i ∈ isR, i ∉ isC)
    (kk : ∀ (u : Sy) (H1 : Heap) (locs1 : List Loc), Ph u → va_P E.1 vwCl (Sr ++ W1 u).flatten H1 → va_D A0 (Sr ++ W1 u).flatten → va_S A0 H0 H1 locs1 → W p l e R s m args below meth c H1 locs1 (cells + mc) (slots + ms) Q (F0 m (pc + 3) ls (r.toList ++ rest))) :
    W p l e R s m args below meth c H locs cells slots Q (F0 m pc ls st0) := by
  intro T hT X
  have hF := zf_free hD hS hA isC hC
  rcases hr T hT X with ⟨v', st₀, t, T', L, h0, X', hL, e1, e2, ⟨hv, ⟨u, hPh, hP1, hD1⟩, hz, hk⟩, st⟩ | ⟨q, st₀, t, T', L, Ex, ce, h0, X', hL, e1, e2, ⟨hPs, -⟩, hce, hcv, hcl, st⟩
  · cases hv
    rw [h0] at hz hk
    rw [← e1] at hz hk hP1
    obtain ⟨k1, k2⟩ := zf_join hP hD isC isR hC hR hn hdis hF hk hP1 hD1
    rw [← List.flatten_append] at k1 k2
    obtain ⟨t2, a1, b1⟩ := kk u T'.heap (locs ++ L) hPh k1 k2 ⟨Nat.le_trans hS.1 hz, fun q h1 h2 => by rw [hk q (Nat.lt_of_lt_of_le h1 hS.1) (fun z => h2 (hF q z))]; exact hS.2.1 q h1 h2, fun q hq => by
        rcases List.mem_append.mp hq with h | h
        · exact hS.2.2 q h
        · exact hF _ (hL q h)⟩ T' rfl X'
    exact ⟨t2, st t2 a1, b1⟩
  · exact hPs.elim
end ZY
/-! the row of saved states, once more -/
section WK
variable {ln nx ct f0 f1 : Int32} {g ga gb g' : Nat → Int32} {v : Nat → Nat → Int32}
theorem z_ok_b2 (h : z_ok g) : z_b2 g := ⟨h.2.2.1, h.2.2.2⟩
theorem z_wk_now (hw : z_wk ln nx ct f0 f1 g ga gb v) (h : z_ok g') : z_wk ln nx ct f0 f1 g' ga gb v := ⟨h, hw.2⟩
theorem z_wk_save (hw : z_wk ln nx ct f0 f1 g ga gb v) (h : z_ok g') : z_wk ln (nI ((m_n nx + 1) % 6)) (nI (if m_n ct < 6 then m_n ct + 1 else 6)) f0 f1 g' ga gb (va_up v (m_n nx) g) := by
  obtain ⟨h1, h2, h3, h4, h5, h6, h7, h8, h9⟩ := hw
  refine ⟨h, ⟨?_, ?_⟩, ⟨?_, ?_⟩, h4, h5, h6, h7, h8, fun k hk => ?_⟩
  · rw [m_n_nI (by omega)]
  · rw [m_n_nI (by omega)]; omega
  · rw [m_n_nI (by split <;> omega)]
  · rw [m_n_nI (by split <;> omega)]; split <;> omega
  · unfold va_up
    split
    · exact z_ok_b2 h1
    · exact h9 k hk
theorem z_wk_undo (hw : z_wk ln nx ct f0 f1 g ga gb v) (h : z_ok (v ((m_n nx + 5) % 6))) : z_wk ln (nI ((m_n nx + 5) % 6)) (nI (m_n ct - 1)) f0 f1 (v ((m_n nx + 5) % 6)) ga gb v := by
  obtain ⟨h1, h2, h3, h4, h5, h6, h7, h8, h9⟩ := hw
  refine ⟨h, ⟨?_, ?_⟩, ⟨?_, ?_⟩, h4, h5, h6, h7, h8, h9⟩
  · rw [m_n_nI (by omega)]
  · rw [m_n_nI (by omega)]; omega
  · rw [m_n_nI (by omega)]
  · rw [m_n_nI (by omega)]; omega
theorem z_wk_st0 (hw : z_wk ln nx ct f0 f1 g ga gb v) : z_wk ln nx ct 1 f1 g g gb v := ⟨hw.1, hw.2.1, hw.2.2.1, hw.2.2.2.1, Or.inr rfl, hw.2.2.2.2.2.1, z_ok_b2 hw.1, hw.2.2.2.2.2.2.2⟩
theorem z_wk_st1 (hw : z_wk ln nx ct f0 f1 g ga gb v) : z_wk ln nx ct f0 1 g ga g v := ⟨hw.1, hw.2.1, hw.2.2.1, hw.2.2.2.1, hw.2.2.2.2.1, Or.inr rfl, hw.2.2.2.2.2.2.1, z_ok_b2 hw.1, hw.2.2.2.2.2.2.2.2⟩
/-- behind a save the last saved state is the one that was saved, and the place is where it was -/
theorem r_un {nx : Int32} (h : nx = nI (m_n nx) ∧ m_n nx < 6) : (m_n (nI ((m_n nx + 1) % 6)) + 5) % 6 = m_n nx := by
  rw [m_n_nI (by omega)]
  omega
theorem r_vs (v : Nat → Nat → Int32) (k : Nat) (g : Nat → Int32) : va_up v k g k = g := if_pos rfl
theorem r_vn (v : Nat → Nat → Int32) {k j : Nat} (g : Nat → Int32) (h : j ≠ k) : va_up v k g j = v j := if_neg h
theorem r_ct {ct : Int32} (h : ct = nI (m_n ct) ∧ m_n ct ≤ 6) : ¬ nI (if m_n ct < 6 then m_n ct + 1 else 6) = 0 := nI_ne0 (by split <;> omega) (by split <;> omega)
end WK
section ST
theorem c_X9_store0 (l : Launch) (E : zE) (sa : Nat → Nat) (hl0 : l.stackTraces = false) (xa na ma mb : Nat → Nat) (ad : Nat → Nat → Nat) (tx : Nat → Int32) (ln nx ct f0 f1 : Int32) (g ga gb : Nat → Int32) (v : Nat → Nat → Int32) (hw : z_wk ln nx ct f0 f1 g ga gb v) : zME l yX9_store wsX9_store ({ frames := 7, cells := 1, slots := 6, locals := 112 }) E sa [.ref (xa 0), .int 0] ([(z_W E xa na ma mb ad tx ln nx ct f0 f1 g ga gb v).flatten] : List va_W).flatten ((0 : Int32) ≤ 0 ∧ (0 : Int32) ≤ 1) (some (.int (m_std (g 0) - m_std (g 1)))) ([(z_W E xa na ma mb ad tx ln nx ct 1 f1 g g gb v).flatten] : List va_W).flatten (fun Ex => Ex = zIA ∧ ¬ ((0 : Int32) ≤ 0 ∧ (0 : Int32) ≤ 1)) 1 6 := by
  have h := c_X9_store l E sa hl0 xa na ma mb ad tx ln nx ct f0 f1 g ga gb v hw 0
  have e : ((0 : Int32) = 0) := rfl
  rw [if_pos e, if_pos e, if_pos e, if_pos e] at h
  exact h
theorem c_X9_store1 (l : Launch) (E : zE) (sa : Nat → Nat) (hl0 : l.stackTraces = false) (xa na ma mb : Nat → Nat) (ad : Nat → Nat → Nat) (tx : Nat → Int32) (ln nx ct f0 f1 : Int32) (g ga gb : Nat → Int32) (v : Nat → Nat → Int32) (hw : z_wk ln nx ct f0 f1 g ga gb v) : zME l yX9_store wsX9_store ({ frames := 7, cells := 1, slots := 6, locals := 112 }) E sa [.ref (xa 0), .int 1] ([(z_W E xa na ma mb ad tx ln nx ct f0 f1 g ga gb v).flatten] : List va_W).flatten ((0 : Int32) ≤ 1 ∧ (1 : Int32) ≤ 1) (some (.int (m_std (g 0) - m_std (g 1)))) ([(z_W E xa na ma mb ad tx ln nx ct f0 1 g ga g v).flatten] : List va_W).flatten (fun Ex => Ex = zIA ∧ ¬ ((0 : Int32) ≤ 1 ∧ (1 : Int32) ≤ 1)) 1 6 := by
  have h := c_X9_store l E sa hl0 xa na ma mb ad tx ln nx ct f0 f1 g ga gb v hw 1
  have e : ¬ ((1 : Int32) = 0) := by decide
  rw [if_neg e, if_neg e, if_neg e, if_neg e] at h
  exact h
end ST
section RC
theorem c_X9_recall0 (l : Launch) (E : zE) (sa : Nat → Nat) (hl0 : l.stackTraces = false) (xa na ma mb : Nat → Nat) (ad : Nat → Nat → Nat) (tx : Nat → Int32) (ln nx ct f0 f1 : Int32) (g ga gb : Nat → Int32) (v : Nat → Nat → Int32) (hw : z_wk ln nx ct f0 f1 g ga gb v) : zME l yX9_recall wsX9_recall ({ frames := 7, cells := 2, slots := 12, locals := 112 }) E sa [.ref (xa 0), .int 0] ([(z_W E xa na ma mb ad tx ln nx ct f0 f1 g ga gb v).flatten] : List va_W).flatten (((0 : Int32) ≤ 0 ∧ (0 : Int32) ≤ 1) ∧ ¬ f0 = 0) (some (.int (m_std (ga 0) - m_std (ga 1)))) ([(z_W E xa na ma mb ad tx ln (nI ((m_n nx + 1) % 6)) (nI (if m_n ct < 6 then m_n ct + 1 else 6)) f0 f1 ga ga gb (va_up v (m_n nx) g)).flatten] : List va_W).flatten (fun Ex => (Ex = zIA ∧ ¬ ((0 : Int32) ≤ 0 ∧ (0 : Int32) ≤ 1)) ∨ (Ex = zIS ∧ ((0 : Int32) ≤ 0 ∧ (0 : Int32) ≤ 1) ∧ f0 = 0)) 2 12 := by
  have h := c_X9_recall l E sa hl0 xa na ma mb ad tx ln nx ct f0 f1 g ga gb v hw 0
  have e : ((0 : Int32) = 0) := rfl
  rw [if_pos e, if_pos e] at h
  exact h
theorem c_X9_recall1 (l : Launch) (E : zE) (sa : Nat → Nat) (hl0 : l.stackTraces = false) (xa na ma mb : Nat → Nat) (ad : Nat → Nat → Nat) (tx : Nat → Int32) (ln nx ct f0 f1 : Int32) (g ga gb : Nat → Int32) (v : Nat → Nat → Int32) (hw : z_wk ln nx ct f0 f1 g ga gb v) : zME l yX9_recall wsX9_recall ({ frames := 7, cells := 2, slots := 12, locals := 112 }) E sa [.ref (xa 0), .int 1] ([(z_W E xa na ma mb ad tx ln nx ct f0 f1 g ga gb v).flatten] : List va_W).flatten (((0 : Int32) ≤ 1 ∧ (1 : Int32) ≤ 1) ∧ ¬ f1 = 0) (some (.int (m_std (gb 0) - m_std (gb 1)))) ([(z_W E xa na ma mb ad tx ln (nI ((m_n nx + 1) % 6)) (nI (if m_n ct < 6 then m_n ct + 1 else 6)) f0 f1 gb ga gb (va_up v (m_n nx) g)).flatten] : List va_W).flatten (fun Ex => (Ex = zIA ∧ ¬ ((0 : Int32) ≤ 1 ∧ (1 : Int32) ≤ 1)) ∨ (Ex = zIS ∧ ((0 : Int32) ≤ 1 ∧ (1 : Int32) ≤ 1) ∧ f1 = 0)) 2 12 := by
  have h := c_X9_recall l E sa hl0 xa na ma mb ad tx ln nx ct f0 f1 g ga gb v hw 1
  have e : ¬ ((1 : Int32) = 0) := by decide
  rw [if_neg e, if_neg e] at h
  exact h
theorem c_X9_undoG (l : Launch) (E : zE) (sa : Nat → Nat) (hl0 : l.stackTraces = false) (xa na ma mb : Nat → Nat) (ad : Nat → Nat → Nat) (tx : Nat → Int32) (ln nx ct f0 f1 : Int32) (g ga gb : Nat → Int32) (v : Nat → Nat → Int32) (hw : z_wk ln nx ct f0 f1 g ga gb v) {nx0 : Int32} {g0 : Nat → Int32} (e1 : nI ((m_n nx + 5) % 6) = nx0) (e2 : v ((m_n nx + 5) % 6) = g0) : zME l yX9_undo wsX9_undo ({ frames := 6, cells := 1, slots := 6, locals := 112 }) E sa [.ref (xa 0)] ([(z_W E xa na ma mb ad tx ln nx ct f0 f1 g ga gb v).flatten] : List va_W).flatten (¬ ct = 0) (some (.int (nI (m_n ct - 1)))) ([(z_W E xa na ma mb ad tx ln nx0 (nI (m_n ct - 1)) f0 f1 g0 ga gb v).flatten] : List va_W).flatten (fun Ex => Ex = zIS ∧ ct = 0) 1 6 := by
  have h := c_X9_undo l E sa hl0 xa na ma mb ad tx ln nx ct f0 f1 g ga gb v hw
  rw [e1, e2] at h
  exact h
end RC
section RK
variable {ln nx nx1 ct ct1 f0 f1 : Int32} {g ga gb g' : Nat → Int32} {v v1 : Nat → Nat → Int32}
theorem m_n_lt (x : Int32) : m_n x < 2 ^ 31 := by
  have := (fb_rng x).2
  unfold m_n Int32.toNatClampNeg
  omega
theorem r_u1 (h : nx = nI (m_n nx) ∧ m_n nx < 6) (e : nx1 = nI ((m_n nx + 1) % 6)) : (m_n nx1 + 5) % 6 = m_n nx := by
  rw [e, m_n_nI (by omega)]
  omega
theorem r_n1 (e : nx1 = nI ((m_n nx + 1) % 6)) : m_n nx1 = (m_n nx + 1) % 6 := by
  rw [e, m_n_nI (by omega)]
theorem r_e1 (h : nx = nI (m_n nx) ∧ m_n nx < 6) (e : nx1 = nI ((m_n nx + 1) % 6)) : nI ((m_n nx1 + 5) % 6) = nx := by
  rw [r_u1 h e]
  exact h.1.symm
theorem r_e2 (h : nx = nI (m_n nx) ∧ m_n nx < 6) (e : nx1 = nI ((m_n nx + 1) % 6)) (ev : v1 = va_up v (m_n nx) g) : v1 ((m_n nx1 + 5) % 6) = g := by
  rw [r_u1 h e, ev, r_vs]
/-- the number of saved states, from below -/
def r_lo (k : Nat) (c : Int32) : Prop := c = nI (m_n c) ∧ k ≤ m_n c ∧ m_n c ≤ 6
theorem r_lo0 (h : ct = nI (m_n ct) ∧ m_n ct ≤ 6) : r_lo 0 ct := ⟨h.1, Nat.zero_le _, h.2⟩
theorem r_lo1 {k : Nat} (h : r_lo k ct) (hk : k < 6) (e : ct1 = nI (if m_n ct < 6 then m_n ct + 1 else 6)) : r_lo (k + 1) ct1 := by
  obtain ⟨h1, h2, h3⟩ := h
  have : m_n ct1 = if m_n ct < 6 then m_n ct + 1 else 6 := by rw [e, m_n_nI (by split <;> omega)]
  refine ⟨by rw [this]; exact e, ?_, ?_⟩ <;> rw [this] <;> split <;> omega
theorem r_lo2 {k : Nat} (h : r_lo (k + 1) ct) (e : ct1 = nI (m_n ct - 1)) : r_lo k ct1 := by
  obtain ⟨h1, h2, h3⟩ := h
  have : m_n ct1 = m_n ct - 1 := by rw [e, m_n_nI (by omega)]
  exact ⟨by rw [this]; exact e, by omega, by omega⟩
theorem r_ne {k : Nat} (h : r_lo (k + 1) ct) : ¬ ct = 0 := by
  intro z
  have := h.2.1
  rw [z, k_mn0] at this
  omega
theorem r_nn (c : Int32) : ¬ nI (m_n c - 1) < 0 := nI_pos (by have := m_n_lt c; omega)
/-- the watch is well kept with other names -/
theorem r_wk {ln' nx' ct' : Int32} {v' : Nat → Nat → Int32} (h : z_wk ln nx ct f0 f1 g ga gb v) (e1 : nx' = nx) (e2 : ct' = ct) (e3 : v' = v) : z_wk ln nx' ct' f0 f1 g ga gb v' := by
  subst e1 e2 e3
  exact h
theorem r_wku {nx0 : Int32} {g0 : Nat → Int32} (hw : z_wk ln nx ct f0 f1 g ga gb v) (e1 : nI ((m_n nx + 5) % 6) = nx0) (e2 : v ((m_n nx + 5) % 6) = g0) (e3 : ct1 = nI (m_n ct - 1)) (h : z_ok g0) : z_wk ln nx0 ct1 f0 f1 g0 ga gb v := by
  have h1 := z_wk_undo hw (by rw [e2]; exact h)
  rw [e1, e2, ← e3] at h1
  exact h1
end RK
