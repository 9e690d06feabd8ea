/-! methods that throw -/
abbrev zIA : String := "java/lang/IllegalArgumentException"
abbrev zIS : String := "java/lang/IllegalStateException"
abbrev zIO : String := "java/lang/IndexOutOfBoundsException"
abbrev zUp : List String := ["java/lang/RuntimeException", "java/lang/Exception"]
/-- what a throw needs of the tables beside the words, and where its texts lie -/
def zT (sa : Nat → Nat) (U : State) : Prop :=
  va_Nw (.declares (Bundle.initS "java/lang/RuntimeException")) U ∧ va_Nw (.declares (Bundle.initS "java/lang/Exception")) U ∧ va_Nw (.declares (Bundle.initS "java/lang/Throwable")) U ∧
  va_Nw (.castable zIA zIA) U ∧ va_Nw (.castable zIS zIS) U ∧ va_Nw (.castable zIO zIO) U ∧
  vk_R RX9 212 "no state is saved" (sa 0) U ∧ vk_R RX9 212 "no state is saved" (sa 1) U ∧ vk_R RX9 212 "no state is saved" (sa 2) U ∧
  vk_R RX9 230 "the memory is empty" (sa 3) U ∧ vk_R RX9 245 "out of range" (sa 4) U ∧ vk_R RX9 249 "there is no such mark" (sa 5) U
theorem zT.warm {sa : Nat → Nat} {s U : State} (hW : s.WarmedH U.vm) (h : zT sa s) : zT sa U := by
  obtain ⟨h1, h2, h3, h4, h5, h6, h7, h8, h9, h10, h11, h12⟩ := h
  exact ⟨va_Nw.warmD hW h1, va_Nw.warmD hW h2, va_Nw.warmD hW h3, va_Nw.warmC hW h4, va_Nw.warmC hW h5, va_Nw.warmC hW h6, vk_R.warm hW h7, vk_R.warm hW h8, vk_R.warm hW h9, vk_R.warm hW h10, vk_R.warm hW h11, vk_R.warm hW h12⟩
theorem zT.same {sa : Nat → Nat} {u U : State} (hv : u.vm = U.vm) (h : zT sa u) : zT sa U := by
  obtain ⟨h1, h2, h3, h4, h5, h6, h7, h8, h9, h10, h11, h12⟩ := h
  exact ⟨va_Nw.same rfl hv h1, va_Nw.same rfl hv h2, va_Nw.same rfl hv h3, va_Nw.same rfl hv h4, va_Nw.same rfl hv h5, va_Nw.same rfl hv h6, vk_R.same hv.symm h7, vk_R.same hv.symm h8, vk_R.same hv.symm h9, vk_R.same hv.symm h10, vk_R.same hv.symm h11, vk_R.same hv.symm h12⟩
def zZ (A : Nat → Prop) (U : State) (H : Heap) : Prop := vx_Zq Bundle.tN "UNASSIGNED_STACK" Bundle.steD A U H ∧ vx_Zq Bundle.tN "SUPPRESSED_SENTINEL" Bundle.listD A U H
def zPE (E : zE) (sa : Nat → Nat) (av : List Value) (sz : Nat) (w : va_W) : Array Value → State → Prop := va_Pc av (fun U => U.heap.size = sz ∧ va_P E.1 vwCl w U.heap ∧ zK E U ∧ va_D (fun _ => True) w ∧ zT sa U ∧ zZ (va_A w sz) U U.heap)
theorem zPE.blind {E : zE} {sa : Nat → Nat} {av : List Value} {sz : Nat} {w : va_W} : FrameBlind (zPE E sa av sz w) := fun _ U _ _ q =>
  ⟨q.1, q.2.1, q.2.2.1, q.2.2.2.1.calling, q.2.2.2.2.1, zT.same rfl q.2.2.2.2.2.1, vx_Zq.moved (Vm.Alike.refl U.vm) q.2.2.2.2.2.2.1, vx_Zq.moved (Vm.Alike.refl U.vm) q.2.2.2.2.2.2.2⟩
def zXC (E : zE) (w0 : va_W) (Ps : String → Prop) (A : Nat → Prop) : String → State → State → Prop := fun Ex st t => Ps Ex ∧ zB E w0 A t.heap ∧ va_F A st t
/-- a method that returns, and then Ph, or throws, and then Ps of the exception's class, and the world is what it was -/
def zME (l : Launch) (y : MethodName) (ws : List Cond) (rm : Room) (E : zE) (sa : Nat → Nat) (av : List Value) (w0 : va_W) (Ph : Prop) (r : Option Value) (w1 : va_W) (Ps : String → Prop) (mc ms : Nat) : Prop :=
  ∀ sz : Nat, vx_Met l y ws rm (zPE E sa av sz w0) (zQ r (fun H => Ph ∧ zB E w1 (va_A w0 sz) H) (va_A w0 sz)) (zXC E w0 Ps (va_A w0 sz)) mc ms (va_A w0 sz)
theorem z_preE {E : zE} {sa : Nat → Nat} {s : State} {H : Heap} {w : va_W} {A : Nat → Prop} {av : List Value} {locs : List Loc} (hK : zK E s) (hT : zT sa s) (hZ : zZ A s s.heap) (hS : va_S A s.heap H locs) (hF : ∀ q, va_A w H.size q → A q) (hP : va_P E.1 vwCl w H) (hD : va_D A w) : ∀ U : State, U.heap = H → s.WarmedH U.vm → zPE E sa av H.size w av.toArray U :=
  fun U hU hW => ⟨rfl, by rw [hU], by rw [hU]; exact hP, hK.warm hW, hD.weaken (fun _ _ _ _ => trivial), hT.warm hW, by
    rw [hU]
    exact ⟨vx_Zq.moved hW.alike ((hZ.1.kept hS.2.1).narrow hF), vx_Zq.moved hW.alike ((hZ.2.kept hS.2.1).narrow hF)⟩⟩
section ZX
variable {p : Program} {l : Launch} {e : Env} {R : Room} {s : State} {m : MethodId} {args : Array Value} {below : List Frame} {meth : Method} {c : Code} {H : Heap} {locs : List Loc} {cells slots : Nat} {Q : State → Prop}
variable {pc : Nat} {ls : Array Slot} {rest st0 : List Value} {a : Array Value} {A0 : Nat → Prop} {H0 : Heap} {mc ms : Nat}
theorem z_xmut {r : Option Value} {E : zE} {Ph : Prop} {Ps : String → Prop} {S Sc Sr W1 : List va_W} (hr : vx_Run p l e R s m args below meth c H locs cells slots mc ms (F0 m pc ls st0) rest (zQ r (fun H1 => Ph ∧ zB E W1.flatten (va_A Sc.flatten H.size) H1) (va_A Sc.flatten H.size) a) (zXC E Sc.flatten Ps (va_A Sc.flatten H.size)) (va_A Sc.flatten H.size))
    (hP : va_P E.1 vwCl S.flatten H) (hD : va_D A0 S.flatten) (hS : va_S A0 H0 H locs) (hA : ∀ q, H0.size ≤ q → A0 q) (isC isR : List Nat) (hC : isC.map (fun i => S[i]?) = Sc.map some) (hR : isR.map (fun i => S[i]?) = Sr.map some) (hn : va_nd isR = true) (hdis : ∀ i ∈ isR, i ∉ isC)
    (kx : ∀ (Ex : String) (ce : Cell) (q : Addr) (H1 : Heap) (locs1 : List Loc), Ps Ex → va_P E.1 vwCl (Sr ++ Sc).flatten H1 → va_D A0 (Sr ++ Sc).flatten → va_S A0 H0 H1 locs1 → H1[q]? = some ce → ce.vm = .none → s.vm.findClass Ex = some ce.cls → vx_W p l e R s m args below meth c H1 locs1 (cells + mc) (slots + ms) Q (F0 m pc ls rest) q)
    (kk : ∀ (H1 : Heap) (locs1 : List Loc), Ph → va_P E.1 vwCl (Sr ++ W1).flatten H1 → va_D A0 (Sr ++ W1).flatten → va_S A0 H0 H1 locs1 → W p l e R s m args below meth c H1 locs1 (cells + mc) (slots + ms) Q (F0 m (pc + 3) ls (r.toList ++ rest))) :
    W p l e R s m args below meth c H locs cells slots Q (F0 m pc ls st0) := by
  intro T hT X
  have hF := zf_free hD hS hA isC hC
  rcases hr T hT X with ⟨v', st₀, t, T', L, h0, X', hL, e1, e2, ⟨hv, ⟨hPh, hP1, hD1⟩, hz, hk⟩, st⟩ | ⟨q, st₀, t, T', L, Ex, ce, h0, X', hL, e1, e2, ⟨hPs, ⟨hP1, hD1⟩, hz, hk⟩, hce, hcv, hcl, st⟩
  · cases hv
    rw [h0] at hz hk
    rw [← e1] at hz hk hP1
    obtain ⟨k1, k2⟩ := zf_join hP hD isC isR hC hR hn hdis hF hk hP1 hD1
    rw [← List.flatten_append] at k1 k2
    obtain ⟨t2, a1, b1⟩ := kk T'.heap (locs ++ L) hPh k1 k2 ⟨Nat.le_trans hS.1 hz, fun q h1 h2 => by rw [hk q (Nat.lt_of_lt_of_le h1 hS.1) (fun z => h2 (hF q z))]; exact hS.2.1 q h1 h2, fun q hq => by
        rcases List.mem_append.mp hq with h | h
        · exact hS.2.2 q h
        · exact hF _ (hL q h)⟩ T' rfl X'
    exact ⟨t2, st t2 a1, b1⟩
  · rw [h0] at hz hk
    rw [← e1] at hz hk hP1 hce
    obtain ⟨k1, k2⟩ := zf_join hP hD isC isR hC hR hn hdis hF hk hP1 hD1
    rw [← List.flatten_append] at k1 k2
    obtain ⟨t2, a1, b1⟩ := kx Ex ce q T'.heap (locs ++ L) hPs k1 k2 ⟨Nat.le_trans hS.1 hz, fun q h1 h2 => by rw [hk q (Nat.lt_of_lt_of_le h1 hS.1) (fun z => h2 (hF q z))]; exact hS.2.1 q h1 h2, fun q hq => by
        rcases List.mem_append.mp hq with h | h
        · exact hS.2.2 q h
        · exact hF _ (hL q h)⟩ hce hcv hcl T' rfl X'
    exact ⟨t2, st.trans a1, b1⟩
theorem z_starte {y : MethodName} {ws ws' : List Cond} {rm : Room} {E : zE} {sa : Nat → Nat} {av : List Value} {w0 : va_W} {Ph : Prop} {r : Option Value} {w1 : va_W} {Ps : String → Prop} {mc ms : Nat} {cc : ByteArray} {maxL : Nat} {ret : Option FieldType} (hy : plainName y.cls = true) (hw : ws = Cond.code y cc maxL ret :: ws') (hlen : (lg_sl av).length ≤ maxL)
    (body : ∀ (p : Program) (e : Env) (s : State) (m : MethodId) (below : List Frame) (meth : Method) (c : Code) (A : Nat → Prop), p.tables.exec = Jvm.exec → c.code = cc → meth.sig.returnType = ret → (∀ w ∈ ws, w.before av.toArray s = true) → s.vm.findClass y.cls = some m.cls → meth.locks = false → c.maxLocals = maxL → (∀ x ∈ c.exceptionTable.toList, False) → (∀ q, s.heap.size ≤ q → A q) → zT sa s → zZ A s s.heap → ∀ H : Heap, H = s.heap → va_P E.1 vwCl w0 H → zK E s → va_D A w0 → va_S A s.heap H [] →
      ∀ ls : Array Slot, lv_has ls maxL (lv_args 0 av) → W p l e rm s m av.toArray below meth c H [] 0 0 (vx_MQ below (zQ r (fun H => Ph ∧ zB E w1 A H) A) (zXC E w0 Ps A) av.toArray s mc ms A) (F0 m 0 ls [])) : zME l y ws rm E sa av w0 Ph r w1 Ps mc ms := by
  intro sz
  refine vx_ofW (cc := cc) (maxL := maxL) (ret := ret) hy hw ?_
  intro p e s m args below meth c s₁ B hml hnt hv
  obtain ⟨rfl, hsz, hP, hK, hD0, hT, hZ⟩ := hv
  subst hsz
  have hts := atoms_spec (ws := ws) B.pre
  have hD := hD0.self (sz := s.heap.size)
  generalize hAe : va_A w0 s.heap.size = A at hD hZ ⊢
  rw [lg_entry_eq]
  exact body p e s m below meth c A B.exec B.bytes B.returns hts (findClass_of_methodNamed B.named) B.notSynchronized hml hnt (fun q h => by rw [← hAe]; exact Or.inr h) hT hZ _ rfl hP hK hD va_S.rf _ (lv_entry av hlen)
theorem z_ende {E : zE} {A : Nat → Prop} {Ph : Prop} {r : Option Value} {w w1 : va_W} (h : Ph) (hP : va_P E.1 vwCl w H) (hD : va_D A w) (hS : va_S A s.heap H locs) (hw : w = w1) : ∀ t : State, t.heap = H → s.WarmedH t.vm → zQ r (fun H => Ph ∧ zB E w1 A H) A args s (.returned r) t :=
  fun t ht _ => ⟨rfl, ⟨h, by rw [ht]; exact hw ▸ hP, hw ▸ hD⟩, hS.F ht⟩
/-- it goes through to the caller -/
theorem z_outE {E : zE} {A : Nat → Prop} {Ex : String} {ce : Cell} {q : Addr} {Ps : String → Prop} {w w0 : va_W} {Qc : Array Value → State → Outcome → State → Prop} (hnt : ∀ x ∈ c.exceptionTable.toList, False) (hlocks : meth.locks = false) (hcell : H[q]? = some ce) (hv : ce.vm = .none) (hcl : s.vm.findClass Ex = some ce.cls) (hps : Ps Ex) (hP : va_P E.1 vwCl w H) (hD : va_D A w) (hS : va_S A s.heap H locs) (hw : w = w0) (hc : cells ≤ mc) (hs : slots ≤ ms) :
    vx_W p l e R s m args below meth c H locs cells slots (vx_MQ below Qc (zXC E w0 Ps A) args s mc ms A) (F0 m pc ls rest) q :=
  vx_out (fun x hx => (hnt x hx).elim) hlocks hcell hv hcl (fun t ht _ => ⟨hps, ⟨by rw [ht]; exact hw ▸ hP, hw ▸ hD⟩, hS.F ht⟩) hS.2.2 hc hs
theorem z_throw {cc : ByteArray} {E : zE} {A : Nat → Prop} {Ps : String → Prop} {w w0 : va_W} {Qc : Array Value → State → Outcome → State → Prop} {own cls text : String} {names : List String} {ik is ic sa : Nat} (hexec : p.tables.exec = Jvm.exec) (hb : c.code = cc) (hl : l.stackTraces = false)
    (hown : s.vm.findClass own = some m.cls) (hcls : Bundle.fit cls = true) (hnames : ∀ n ∈ names, Bundle.fit n = true)
    (hk : (Cond.classLink own ik cls).before args s = true) (hini : (Cond.initialized cls).before args s = true) (hstr : vk_R own is text sa s) (hat : ∀ w ∈ vx_atS own ic cls names, w.before args s = true)
    (hgood : ∀ w ∈ Cond.classLink own ik cls :: Cond.initialized cls :: vx_atS own ic cls names, vx_ot w = true) (hZ : zZ A s s.heap) (hP : va_P E.1 vwCl w H) (hD : va_D A w) (hS : va_S A s.heap H locs) (hsize : ls.size = c.maxLocals) (hnt : ∀ x ∈ c.exceptionTable.toList, False)
    (d0 : decode cc pc = .ok (.new ik, 3)) (d3 : decode cc (pc + 3) = .ok (.dup, 1)) (d4 : decode cc (pc + 4) = .ok (.ldc is, 2)) (d6 : decode cc (pc + 6) = .ok (.invokespecial ic, 3)) (d9 : decode cc (pc + 9) = .ok (.athrow, 1))
    (hRframes : names.length + 3 < R.frames) (hRlocals : (rest.map fun v => v.category).sum + (13 * (names.length + 1) + 43) ≤ R.locals) (hRcells : cells + 1 ≤ R.cells) (hRslots : slots + 6 ≤ R.slots) (hlocks : meth.locks = false) (hps : Ps cls) (hw : w = w0) (hc : cells + 1 ≤ mc) (hs : slots + 6 ≤ ms) :
    W p l e R s m args below meth c H locs cells slots (vx_MQ below Qc (zXC E w0 Ps A) args s mc ms A) (F0 m pc ls rest) :=
  vx_throwS hexec hb hl hown hcls hnames hk hini hstr hat hgood hZ.1 hZ.2 hS hsize d0 d3 d4 d6 d9 (fun x hx => (hnt x hx).elim) hRframes hRlocals hRcells hRslots hlocks (fun t _ h1 h2 => by
    subst hw
    refine ⟨hps, ⟨zf_mem.mpr (fun q hq => ?_), hD⟩, Nat.le_trans hS.1 h1, fun q h3 h4 => by rw [h2 q (Nat.lt_of_lt_of_le h3 hS.1)]; exact hS.2.1 q h3 h4⟩
    have h5 := zf_mem.mp hP q hq
    exact h5.kept (h2 q.1 h5.lt)) hS.2.2 hc hs
end ZX
theorem zT.d1 {sa : Nat → Nat} {a : Array Value} {s : State} (h : zT sa s) : (Cond.declares (Bundle.initS "java/lang/RuntimeException")).before a s = true := va_Nw.use rfl h.1
theorem zT.d2 {sa : Nat → Nat} {a : Array Value} {s : State} (h : zT sa s) : (Cond.declares (Bundle.initS "java/lang/Exception")).before a s = true := va_Nw.use rfl h.2.1
theorem zT.d3 {sa : Nat → Nat} {a : Array Value} {s : State} (h : zT sa s) : (Cond.declares (Bundle.initS "java/lang/Throwable")).before a s = true := va_Nw.use rfl h.2.2.1
theorem zT.cA {sa : Nat → Nat} {a : Array Value} {s : State} (h : zT sa s) : (Cond.castable zIA zIA).before a s = true := va_Nw.use rfl h.2.2.2.1
theorem zT.cS {sa : Nat → Nat} {a : Array Value} {s : State} (h : zT sa s) : (Cond.castable zIS zIS).before a s = true := va_Nw.use rfl h.2.2.2.2.1
theorem zT.cO {sa : Nat → Nat} {a : Array Value} {s : State} (h : zT sa s) : (Cond.castable zIO zIO).before a s = true := va_Nw.use rfl h.2.2.2.2.2.1
theorem zT.hA {sa : Nat → Nat} {ws : List Cond} {a : Array Value} {s : State} (h : zT sa s) (hts : ∀ w ∈ ws, w.before a s = true) (hin : ∀ w ∈ (vx_atS RX9 198 zIA zUp).filter goodWord, w ∈ ws) : ∀ w ∈ vx_atS RX9 198 zIA zUp, w.before a s = true :=
  vx_hat (B := [.declares (Bundle.initS "java/lang/RuntimeException"), .declares (Bundle.initS "java/lang/Exception"), .declares (Bundle.initS "java/lang/Throwable"), .castable zIA zIA]) (fun w hw => hts w (hin w hw)) (by decide +kernel) (vx_c h.d1 (vx_c h.d2 (vx_c h.d3 (vx_c h.cA vx_n))))
theorem zT.hS {sa : Nat → Nat} {ws : List Cond} {a : Array Value} {s : State} (h : zT sa s) (hts : ∀ w ∈ ws, w.before a s = true) (hin : ∀ w ∈ (vx_atS RX9 178 zIS zUp).filter goodWord, w ∈ ws) : ∀ w ∈ vx_atS RX9 178 zIS zUp, w.before a s = true :=
  vx_hat (B := [.declares (Bundle.initS "java/lang/RuntimeException"), .declares (Bundle.initS "java/lang/Exception"), .declares (Bundle.initS "java/lang/Throwable"), .castable zIS zIS]) (fun w hw => hts w (hin w hw)) (by decide +kernel) (vx_c h.d1 (vx_c h.d2 (vx_c h.d3 (vx_c h.cS vx_n))))
theorem zT.hO {sa : Nat → Nat} {ws : List Cond} {a : Array Value} {s : State} (h : zT sa s) (hts : ∀ w ∈ ws, w.before a s = true) (hin : ∀ w ∈ (vx_atS RX9 251 zIO zUp).filter goodWord, w ∈ ws) : ∀ w ∈ vx_atS RX9 251 zIO zUp, w.before a s = true :=
  vx_hat (B := [.declares (Bundle.initS "java/lang/RuntimeException"), .declares (Bundle.initS "java/lang/Exception"), .declares (Bundle.initS "java/lang/Throwable"), .castable zIO zIO]) (fun w hw => hts w (hin w hw)) (by decide +kernel) (vx_c h.d1 (vx_c h.d2 (vx_c h.d3 (vx_c h.cO vx_n))))
theorem zf_one {S : List va_W} : ([S.flatten] : List va_W).flatten = S.flatten := by simp
/-- the watch: its own cell (0), text (1), codes (2), saved states (3), their places (4), memories (5, 6); the states of now, of the memories, the saved ones -/
def z_W (E : zE) (xa na ma mb : Nat → Nat) (ad : Nat → Nat → Nat) (tx : Nat → Int32) (ln nx ct f0 f1 : Int32) (g ga gb : Nat → Int32) (v : Nat → Nat → Int32) : List va_W :=
  [[(xa 0, .inr (8, [.ref (na 0), .ref (xa 3), .ref (xa 5), .ref (xa 6), .ref (xa 1)]))], [(xa 1, .inr (6, [.ref (xa 2), .int ln]))], [(xa 2, .inl (E.2 0, 60, .inl tx))],
   [(xa 3, .inr (3, [.ref (xa 4), .int nx, .int ct]))], [(xa 4, .inl (E.2 2, 6, .inr (.inr (.inr (.inr (z_pl ad 6))))))], [(xa 5, .inr (2, [.ref (ma 0), .int f0]))], [(xa 6, .inr (2, [.ref (mb 0), .int f1]))],
   z_St E na g, z_St E ma ga, z_St E mb gb, z_SS E ad v 6]
def z_b2 (g : Nat → Int32) : Prop := (g 2 = 0 ∨ g 2 = 1) ∧ (g 13 = 0 ∨ g 13 = 1)
def z_wk (ln nx ct f0 f1 : Int32) (g ga gb : Nat → Int32) (v : Nat → Nat → Int32) : Prop :=
  z_ok g ∧ (nx = nI (m_n nx) ∧ m_n nx < 6) ∧ (ct = nI (m_n ct) ∧ m_n ct ≤ 6) ∧ (ln = nI (m_n ln) ∧ m_n ln ≤ 60) ∧ (f0 = 0 ∨ f0 = 1) ∧ (f1 = 0 ∨ f1 = 1) ∧ z_b2 ga ∧ z_b2 gb ∧ ∀ k, k < 6 → z_b2 (v k)
theorem k_nn {n : Int32} (h : 1 ≤ n ∧ n ≤ 120) : n = nI (m_n n) ∧ m_n n ≤ 120 := by
  have h0 : ¬ n < 0 := fun h9 => absurd (Int32.lt_of_le_of_lt h.1 h9) (by decide)
  obtain ⟨j, hj, rfl⟩ := nI_of h0
  rw [m_n_nI hj]
  exact ⟨rfl, nI_len (b := 120) (by omega) (by decide) h.2⟩
theorem k_ltn {n : Int32} (h : n = nI (m_n n)) (h2 : m_n n ≤ 60) (c : n < 60) : m_n n < 60 := by
  rw [h] at c
  exact nI_ltn (b := 60) (by omega) (by decide) c
theorem k_ne0 {n : Int32} (h : n = nI (m_n n)) (c : ¬ n = 0) : 1 ≤ m_n n := by
  rcases Nat.eq_zero_or_pos (m_n n) with q | q
  · rw [q] at h
    exact absurd h c
  · exact q

