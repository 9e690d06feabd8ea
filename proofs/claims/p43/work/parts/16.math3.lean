/-! states in a row: the places of what is saved -/
def z_SS (E : zE) (ad : Nat → Nat → Nat) (v : Nat → Nat → Int32) (n : Nat) : va_W := (List.range n).flatMap (fun k => z_St E (ad k) (v k))
/-- .. but the k-th -/
def z_SX (E : zE) (ad : Nat → Nat → Nat) (v : Nat → Nat → Int32) (n k : Nat) : va_W := (List.range n).flatMap (fun j => if j = k then [] else z_St E (ad j) (v j))
theorem va_D_iff {A : Nat → Prop} {w : va_W} : va_D A w ↔ (w.map (fun q => q.1)).Nodup ∧ ∀ q ∈ w, A q.1 := by
  constructor
  · intro h
    refine ⟨List.pairwise_iff_getElem.mpr (fun i j hi hj hij e => ?_), fun q hq => ?_⟩
    · rw [List.length_map] at hi hj
      rw [List.getElem_map, List.getElem_map] at e
      have := h.1 i j _ _ (List.getElem?_eq_getElem hi) (List.getElem?_eq_getElem hj) e
      omega
    · obtain ⟨k, hk⟩ := List.getElem?_of_mem hq
      exact h.2 k q hk
  · rintro ⟨h1, h2⟩
    have h3 := List.pairwise_iff_getElem.mp h1
    refine ⟨fun i j p q hi hj e => ?_, fun k q hk => h2 q (List.mem_of_getElem? hk)⟩
    obtain ⟨hi1, hi2⟩ := List.getElem?_eq_some_iff.mp hi
    obtain ⟨hj1, hj2⟩ := List.getElem?_eq_some_iff.mp hj
    rcases Nat.lt_trichotomy i j with h | h | h
    · refine absurd ?_ (h3 i j (by rw [List.length_map]; exact hi1) (by rw [List.length_map]; exact hj1) h)
      rw [List.getElem_map, List.getElem_map, hi2, hj2]; exact e
    · exact h
    · refine absurd ?_ (h3 j i (by rw [List.length_map]; exact hj1) (by rw [List.length_map]; exact hi1) h)
      rw [List.getElem_map, List.getElem_map, hi2, hj2]; exact e.symm
theorem zp_P {D : va_G} {cl : List vw_C} {w w' : va_W} {H : Heap} (p : w.Perm w') (h : va_P D cl w H) : va_P D cl w' H :=
  zf_mem.mpr (fun q hq => zf_mem.mp h q (p.mem_iff.mpr hq))
theorem zp_D {A : Nat → Prop} {w w' : va_W} (p : w.Perm w') (h : va_D A w) : va_D A w' := by
  rw [va_D_iff] at h ⊢
  exact ⟨(p.map _).nodup h.1, fun q hq => h.2 q (p.mem_iff.mpr hq)⟩
theorem z_SX_ge {E : zE} {ad : Nat → Nat → Nat} {v : Nat → Nat → Int32} {k : Nat} : ∀ {n : Nat}, n ≤ k → z_SX E ad v n k = z_SS E ad v n
  | 0, _ => rfl
  | n + 1, h => by
    have ih := z_SX_ge (E := E) (ad := ad) (v := v) (k := k) (n := n) (by omega)
    unfold z_SX z_SS at ih ⊢
    rw [List.range_succ, List.flatMap_append, List.flatMap_append, ih]
    simp [show n ≠ k by omega]
theorem z_SS_perm {E : zE} {ad : Nat → Nat → Nat} {v : Nat → Nat → Int32} {k : Nat} : ∀ {n : Nat}, k < n → (z_SS E ad v n).Perm (z_St E (ad k) (v k) ++ z_SX E ad v n k)
  | 0, h => absurd h (by omega)
  | n + 1, h => by
    have e1 : z_SS E ad v (n + 1) = z_SS E ad v n ++ z_St E (ad n) (v n) := by unfold z_SS; rw [List.range_succ, List.flatMap_append]; simp
    have e2 : z_SX E ad v (n + 1) k = z_SX E ad v n k ++ (if n = k then [] else z_St E (ad n) (v n)) := by unfold z_SX; rw [List.range_succ, List.flatMap_append]; simp
    rw [e1, e2]
    by_cases e : n = k
    · subst e
      rw [if_pos rfl, List.append_nil, z_SX_ge (Nat.le_refl _)]
      exact List.perm_append_comm
    · rw [if_neg e, ← List.append_assoc]
      exact List.Perm.append_right _ (z_SS_perm (by omega))
theorem z_SX_up {E : zE} {ad : Nat → Nat → Nat} {v : Nat → Nat → Int32} {n k : Nat} {g : Nat → Int32} : z_SX E ad (va_up v k g) n k = z_SX E ad v n k := by
  unfold z_SX
  congr 1
  funext j
  by_cases e : j = k
  · rw [if_pos e, if_pos e]
  · rw [if_neg e, if_neg e, va_up_ne v g e]
theorem z_flat3 {a b : va_W} {S : List va_W} : (S ++ [a, b]).flatten = S.flatten ++ (a ++ b) := by
  rw [List.flatten_append]; simp
theorem z_flat2 {a : va_W} {S : List va_W} : (S ++ [a]).flatten = S.flatten ++ a := by
  rw [List.flatten_append]; simp
theorem z_out {E : zE} {ad : Nat → Nat → Nat} {v : Nat → Nat → Int32} {n k : Nat} {S : List va_W} (hk : k < n) : (S ++ [z_SS E ad v n]).flatten.Perm (S ++ [z_St E (ad k) (v k), z_SX E ad v n k]).flatten := by
  rw [z_flat2, z_flat3]
  exact List.Perm.append_left _ (z_SS_perm hk)
theorem z_in {E : zE} {ad : Nat → Nat → Nat} {v : Nat → Nat → Int32} {n k : Nat} {g : Nat → Int32} {S : List va_W} (hk : k < n) : (S ++ [z_St E (ad k) g, z_SX E ad v n k]).flatten.Perm (S ++ [z_SS E ad (va_up v k g) n]).flatten := by
  have h := z_out (E := E) (ad := ad) (v := va_up v k g) (S := S) hk
  rw [va_up_self, z_SX_up] at h
  exact h.symm
/-- the same states, said otherwise -/
theorem z_SS_ext {E : zE} {ad : Nat → Nat → Nat} {v v' : Nat → Nat → Int32} {n : Nat} (h : ∀ k, k < n → v k = v' k) : z_SS E ad v n = z_SS E ad v' n := by
  unfold z_SS
  rw [List.flatMap_def, List.flatMap_def]
  congr 1
  exact List.map_congr_left (fun k hk => by rw [h k (List.mem_range.mp hk)])
/-- the places, n of them filled -/
def z_pl (ad : Nat → Nat → Nat) (n : Nat) : Nat → Option Nat := fun k => if k < n then some (ad k 0) else none
theorem z_pl_lt {ad : Nat → Nat → Nat} {n k : Nat} (h : k < n) : z_pl ad n k = some (ad k 0) := if_pos h
def z_six (a0 a1 a2 a3 a4 a5 : Nat → Nat) : Nat → Nat → Nat := fun k => if k = 0 then a0 else if k = 1 then a1 else if k = 2 then a2 else if k = 3 then a3 else if k = 4 then a4 else a5
theorem z_pl_six (a0 a1 a2 a3 a4 a5 : Nat → Nat) : va_up (va_up (va_up (va_up (va_up (va_up (fun _ => none) 0 (some (a0 0))) 1 (some (a1 0))) 2 (some (a2 0))) 3 (some (a3 0))) 4 (some (a4 0))) 5 (some (a5 0)) = z_pl (z_six a0 a1 a2 a3 a4 a5) 6 := by
  funext k
  unfold va_up z_pl z_six
  rcases Nat.lt_or_ge k 6 with h | h
  · rw [if_pos h]
    rcases (show k = 0 ∨ k = 1 ∨ k = 2 ∨ k = 3 ∨ k = 4 ∨ k = 5 by omega) with e | e | e | e | e | e <;> subst e <;> rfl
  · rw [if_neg (by omega), if_neg (by omega), if_neg (by omega), if_neg (by omega), if_neg (by omega), if_neg (by omega), if_neg (by omega)]
theorem z_g0_60 : (fun _ => 0 : Nat → Int32) = z_tr 60 (fun k => m_g0 (k + 15)) := z_tr_of (fun k hk => by unfold m_g0; rw [if_neg (by omega), if_neg (by omega), if_neg (by omega), if_neg (by omega)]) (fun _ _ => rfl)
theorem z_g0_10 (o : Nat) (ho : 12 ≤ o) : (fun _ => 0 : Nat → Int32) = z_tr 10 (fun k => m_g0 (4 * k + o)) := z_tr_of (fun k hk => by unfold m_g0; rw [if_neg (by omega), if_neg (by omega), if_neg (by omega), if_neg (by omega)]) (fun _ _ => rfl)

