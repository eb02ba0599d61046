/-! ===== the machine's step that makes an array of n arrays of m ints ===== -/
/-- the first i places hold the cells behind h, the others null -/
def gO (h i j : Nat) : Value := if j < i then .ref (h + 1 + j) else .null
theorem gO_s (h i : Nat) : updV (gO h i) i (.ref (h + 1 + i)) = gO h (i + 1) := by
  funext j
  unfold gO updV
  by_cases e : j = i
  · subst e
    rw [if_pos rfl, if_pos (by omega)]
  · rw [if_neg e]
    show (if j < i then Value.ref (h + 1 + j) else Value.null) = _
    by_cases e2 : j < i
    · rw [if_pos e2, if_pos (by omega)]
    · rw [if_neg e2, if_neg (by omega)]
/-- behind the outer array and i of its rows -/
def gS (s : State) (cA cI : ClassId) (n m : Nat) : Nat → State
  | 0 => s.pushCell (arrV cA n (gO s.heap.size 0))
  | i + 1 => ((gS s cA cI n m i).pushCell (arrV cI m (fun _ => .int 0))).setCell s.heap.size (arrV cA n (gO s.heap.size (i + 1)))
theorem gS_f (s : State) (cA cI : ClassId) (n m : Nat) : ∀ i, (gS s cA cI n m i).heap.size = s.heap.size + 1 + i ∧ (gS s cA cI n m i).heap[s.heap.size]? = some (arrV cA n (gO s.heap.size i)) ∧ (gS s cA cI n m i).vm = s.vm ∧ (gS s cA cI n m i).slotsUsed = s.slotsUsed + n + i * m ∧ (∀ a : Nat, a < s.heap.size → (gS s cA cI n m i).heap[a]? = s.heap[a]?) ∧ ∀ j, j < i → (gS s cA cI n m i).heap[s.heap.size + 1 + j]? = some (arrV cI m (fun _ => .int 0))
  | 0 => by
    have e : (gS s cA cI n m 0).heap = s.heap.push (arrV cA n (gO s.heap.size 0)) := rfl
    refine ⟨by rw [e, Array.size_push], by rw [e, Array.getElem?_push_size], rfl, ?_, fun a ha => by rw [e, Array.getElem?_push, if_neg (by omega)], fun j hj => absurd hj (Nat.not_lt_zero j)⟩
    show s.slotsUsed + (arrV cA n (gO s.heap.size 0)).slots.size = _
    rw [arrV_size]
    omega
  | i + 1 => by
    obtain ⟨f1, f2, f3, f4, f5, f6⟩ := gS_f s cA cI n m i
    have e : (gS s cA cI n m (i + 1)).heap = ((gS s cA cI n m i).heap.push (arrV cI m (fun _ => .int 0))).setIfInBounds s.heap.size (arrV cA n (gO s.heap.size (i + 1))) := rfl
    have hs : ((gS s cA cI n m i).heap.push (arrV cI m (fun _ => .int 0))).size = s.heap.size + 1 + i + 1 := by rw [Array.size_push, f1]
    refine ⟨by rw [e, Array.size_setIfInBounds, hs]; omega, ?_, f3, ?_, fun a ha => ?_, fun j hj => ?_⟩
    · rw [e, Array.getElem?_setIfInBounds, if_pos rfl, if_pos (by rw [hs]; omega)]
    · show (gS s cA cI n m i).slotsUsed + (arrV cI m (fun _ => .int 0)).slots.size = _
      rw [arrV_size, f4, Nat.succ_mul]
      omega
    · rw [e, Array.getElem?_setIfInBounds, if_neg (by omega), Array.getElem?_push, if_neg (by omega)]
      exact f5 a ha
    · rw [e, Array.getElem?_setIfInBounds, if_neg (by omega)]
      by_cases ej : j = i
      · subst ej
        rw [← f1, Array.getElem?_push_size]
      · rw [Array.getElem?_push, if_neg (by omega)]
        exact f6 j (by omega)
theorem gS_top (s : State) (f : JFrame) (cA cI : ClassId) (n m : Nat) : ∀ i, gS (s.setTop f) cA cI n m i = (gS s cA cI n m i).setTop f
  | 0 => rfl
  | i + 1 => by
    show ((gS (s.setTop f) cA cI n m i).pushCell _).setCell (s.setTop f).heap.size (arrV cA n (gO (s.setTop f).heap.size (i + 1))) = _
    rw [gS_top s f cA cI n m i]
    simp only [State.heap_setTop, State.pushCell_setTop, State.setCell_setTop]
    rfl
theorem gS_stand {p : Program} {l : Launch} {e : Env} {R : Room} {s : State} {m0 : MethodId} {args : Array Value} {below : List Frame} {meth : Method} {c : Code} {T : State} {locs : List Loc} {cells slots : Nat} (X : Stand p l e R s m0 args below meth c T locs cells slots) (cA cI : ClassId) (n m : Nat) : ∀ i, Stand p l e R s m0 args below meth c (gS T cA cI n m i) locs (cells + 1 + i) (slots + n + i * m)
  | 0 => by
    have h := X.pushed (arrV cA n (gO T.heap.size 0))
    rw [arrV_size] at h
    rw [Nat.zero_mul]
    exact h
  | i + 1 => by
    have h := (gS_stand X cA cI n m i).pushed (arrV cI m (fun _ => .int 0))
    obtain ⟨f1, f2, -⟩ := gS_f T cA cI n m i
    have hc : ((gS T cA cI n m i).pushCell (arrV cI m (fun _ => .int 0))).heap[T.heap.size]? = some (arrV cA n (gO T.heap.size i)) := by
      show ((gS T cA cI n m i).heap.push _)[T.heap.size]? = _
      rw [Array.getElem?_push, if_neg (by omega)]
      exact f2
    have h2 := h.stored hc i (.ref (T.heap.size + 1 + i))
    rw [arrV_store, gO_s, arrV_size] at h2
    have h3 := Stand.forget h2 (fun y hy => by
      rw [List.mem_singleton.mp hy]
      exact X.heapGrown)
    rw [show slots + n + (i + 1) * m = slots + n + i * m + m by rw [Nat.succ_mul]; omega]
    exact h3
section
variable {E : CtlPost} {e : Env} {d : Bool} {acts : List Action} {s : State}
theorem wp_row {cI cc : ClassId} {kI : Class} {m : Nat} (hk : s.vm.classes[cI]? = some kI) (hkind : kI.kind = .array cc .int) (hm : m ≤ 1000) (hl : 1000 ≤ e.platform.arrayLengthLimit) (hh : 4000 ≤ e.platform.maxHeapBytes) (h1 : s.heap.size < e.platform.maxCells) (h2 : s.slotsUsed + m ≤ e.platform.maxSlots)
    {Q : Addr → Pre} (hq : ∀ acts', Q s.heap.size d acts' (s.pushCell (arrV cI m (fun _ => .int 0)))) : wp (multianewarray.make cI [nI m]) Q E e d acts s := by
  have hneg : ¬ nI m < 0 := fun q => absurd (nI_pos' (show m < 2147483648 by omega)) (Int32.not_le.mpr q)
  have hcl : (nI m).toNatClampNeg = m := nI_clamp (by omega)
  rw [multianewarray.make]
  simp only [wp_bind', W.ite, hneg, if_false, wp_pure', W.theClass, hk, hkind, Option.some.injEq, exists_eq_left', hcl]
  refine W.newArray_of hk hkind (by omega) (by show ¬ m * 4 > _; omega) h1 h2 rfl (fun acts' => ?_)
  rw [show ({ cls := cI, slots := Array.replicate m (defaultValue .int) } : Cell) = arrV cI m (fun _ => .int 0) from arrV_new cI m (.int 0)]
  exact hq acts'
theorem wp_grid {cA cI cc : ClassId} {kA kI : Class} {n m : Nat} (hkA : s.vm.classes[cA]? = some kA) (hkindA : kA.kind = .array cI (.array .int)) (hk : s.vm.classes[cI]? = some kI) (hkind : kI.kind = .array cc .int) (hn : n ≤ 1000) (hm : m ≤ 1000) (hl : 1000 ≤ e.platform.arrayLengthLimit) (hh : 4000 ≤ e.platform.maxHeapBytes) (h1 : s.heap.size + 1 + n ≤ e.platform.maxCells) (h2 : s.slotsUsed + n + n * m ≤ e.platform.maxSlots)
    {Q : Addr → Pre} (hq : ∀ d' acts', Q s.heap.size d' acts' (gS s cA cI n m n)) : wp (multianewarray.make cA [nI n, nI m]) Q E e d acts s := by
  have hneg : ¬ nI n < 0 := fun q => absurd (nI_pos' (show n < 2147483648 by omega)) (Int32.not_le.mpr q)
  have hneg2 : ¬ nI m < 0 := fun q => absurd (nI_pos' (show m < 2147483648 by omega)) (Int32.not_le.mpr q)
  have hcl : (nI n).toNatClampNeg = n := nI_clamp (by omega)
  have hfind : ([nI m].find? (· < 0)) = none := by simp [hneg2]
  rw [multianewarray.make]
  simp only [wp_bind', W.ite, hneg, if_false, wp_pure', W.theClass, hkA, hkindA, Option.some.injEq, exists_eq_left', hcl]
  refine W.newArray_of hkA hkindA (by omega) (by show ¬ n * 4 > _; omega) (by omega) (by omega) rfl (fun acts' => ?_)
  rw [show ({ cls := cA, slots := Array.replicate n .null } : Cell) = arrV cA n (gO s.heap.size 0) from arrV_new cA n .null]
  simp only [hfind]
  rw [ite_self, wp_bind', Std.Legacy.Range.forIn_eq_forIn_range']
  have hsz : ([:n] : Std.Legacy.Range).size = n := by simp [Std.Legacy.Range.size]
  rw [hsz]
  show wp (forIn (List.range' 0 n 1) PUnit.unit _) _ E e d acts' _
  refine wp_forIn_inv (fun rest s' => ∃ i, i ≤ n ∧ rest = List.range' i (n - i) ∧ s' = gS s cA cI n m i) _ _ ⟨0, Nat.zero_le _, rfl, rfl⟩ ?_ ?_
  · intro x rest s' d' acts2 Q' hI hnext
    obtain ⟨i, hi, hl2, rfl⟩ := hI
    have hlt : i < n := by
      rcases Nat.lt_or_ge i n with h | h
      · exact h
      · rw [show n - i = 0 by omega] at hl2
        exact absurd hl2 (by simp)
    rw [show n - i = (n - (i + 1)) + 1 by omega, List.range'_succ] at hl2
    obtain ⟨rfl, rfl⟩ := List.cons.inj hl2
    obtain ⟨f1, f2, f3, f4, f5, f6⟩ := gS_f s cA cI n m x
    have hxm : (x + 1) * m ≤ n * m := Nat.mul_le_mul_right m hlt
    rw [Nat.succ_mul] at hxm
    simp only [wp_bind']
    refine wp_row (cI := cI) (cc := cc) (kI := kI) (by rw [f3]; exact hk) hkind hm hl hh (by omega) (by omega) (fun acts3 => ?_)
    have hc : ((gS s cA cI n m x).pushCell (arrV cI m (fun _ => .int 0))).heap[s.heap.size]? = some (arrV cA n (gO s.heap.size x)) := by
      show ((gS s cA cI n m x).heap.push _)[s.heap.size]? = _
      rw [Array.getElem?_push, if_neg (by omega)]
      exact f2
    simp only [W.writeLoc, wp_pure', wp_bind']
    refine ⟨_, hc, (fun h => by cases h), by rw [arrV_size]; exact hlt, ?_, ?_⟩
    · have hkA2 : (gS s cA cI n m x).vm.classes[cA]? = some kA := by rw [f3]; exact hkA
      simp [State.fitsSlot, State.slotType?, arrV, hkA2, hkindA, fits]
    · refine hnext _ _ _ ⟨x + 1, hlt, rfl, ?_⟩
      rw [arrV_store, f1, gO_s]
      rfl
  · intro s' d' acts2 hI
    obtain ⟨i, hi, hl2, rfl⟩ := hI
    have e0 : i = n := by
      rcases Nat.lt_or_ge i n with h | h
      · rw [show n - i = (n - (i + 1)) + 1 by omega, List.range'_succ] at hl2
        exact absurd hl2 (by simp)
      · omega
    subst e0
    exact hq _ _
end
