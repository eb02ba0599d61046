/-! ===== an array of arrays of ints ===== -/
def NewM (κ : Kz) (I : Iz) (R : Rz) (A : Nat → Nat) (κ1 : Kz) (I1 : Iz) (R1 : Rz) (A1 : Nat → Nat) (q t t2 n m : Nat) : Prop := Ex (fun x => x = t ∨ (t2 ≤ x ∧ x < t2 + n)) κ I R A κ1 I1 R1 A1 ∧ A1 t = q ∧ κ1.1 q = 14 ∧ κ1.2.1 q = n ∧ κ1.2.2 q = t ∧ I1 q = (fun _ => 0) ∧ (¬ κ.1 q < 15) ∧ ∀ i, i < n → R1 q i = some (A1 (t2 + i)) ∧ κ1.1 (A1 (t2 + i)) = 9 ∧ κ1.2.1 (A1 (t2 + i)) = m ∧ κ1.2.2 (A1 (t2 + i)) = t2 + i ∧ I1 (A1 (t2 + i)) = (fun _ => 0)
/-- one thing at q, another at the n places behind it, else what was -/
def gF {α : Type} (f : Nat → α) (q n : Nat) (x : α) (y : Nat → α) (a : Nat) : α := if a = q then x else if q < a ∧ a ≤ q + n then y a else f a
theorem gF_q {α : Type} {f : Nat → α} {q n : Nat} {x : α} {y : Nat → α} : gF f q n x y q = x := if_pos rfl
theorem gF_i {α : Type} {f : Nat → α} {q n i : Nat} {x : α} {y : Nat → α} (h : i < n) : gF f q n x y (q + 1 + i) = y (q + 1 + i) := by
  unfold gF
  rw [if_neg (by omega), if_pos (by omega)]
theorem gF_o {α : Type} {f : Nat → α} {q n a : Nat} {x : α} {y : Nat → α} (h : a < q ∨ q + n < a) : gF f q n x y a = f a := by
  unfold gF
  rw [if_neg (by omega), if_neg (by omega)]
theorem MM.multi {g : Gz} {κ : Kz} {I : Iz} {R : Rz} {J : Jz} {H H1 : Heap} {A : Nat → Nat} {n m t t2 : Nat} (hM : MM g κ I R J H) (ht : t < t2 ∨ t2 + n ≤ t) (hz : H1.size = H.size + 1 + n) (ho : ∀ b, b < H.size → H1[b]? = H[b]?) (hq : H1[H.size]? = some (arrV (g.2.1 14) n (fun j => va_rf (if j < n then some (H.size + 1 + j) else none)))) (hi : ∀ j, j < n → H1[H.size + 1 + j]? = some (arrV (g.2.1 9) m (fun _ => .int 0))) (hlo : g.2.2 ≤ H.size) :
    ∃ κ1 I1 R1 A1, MM g κ1 I1 R1 J H1 ∧ NewM κ I R A κ1 I1 R1 A1 H.size t t2 n m := by
  have hf : ∀ a, κ.1 a < 15 → a < H.size := fun a ha => hM.lt ha
  refine ⟨(gF κ.1 H.size n 14 (fun _ => 9), gF κ.2.1 H.size n n (fun _ => m), gF κ.2.2 H.size n t (fun a => t2 + (a - H.size - 1))), gF I H.size n (fun _ => 0) (fun _ _ => 0), gF R H.size n (fun j => if j < n then some (H.size + 1 + j) else none) (fun _ _ => none), fun x => if x = t then H.size else if t2 ≤ x ∧ x < t2 + n then H.size + 1 + (x - t2) else A x, fun b => ?_, ?_⟩
  · by_cases e : b = H.size
    · subst e
      refine ⟨fun _ => hlo, fun q => ?_, fun q => ?_, fun _ => ?_⟩
      · have q : gF κ.1 H.size n 14 (fun _ => 9) H.size < 9 := q
        rw [gF_q] at q; omega
      · have q : gF κ.1 H.size n 14 (fun _ => 9) H.size = 9 ∨ gF κ.1 H.size n 14 (fun _ => 9) H.size = 10 := q
        rw [gF_q] at q; omega
      · show H1[H.size]? = some (vp_cell (g.2.1 ((gF κ.1 H.size n 14 fun _ => 9) H.size)) ((gF κ.2.1 H.size n n fun _ => m) H.size, .inr (.inr (.inr (.inr ((gF R H.size n (fun j => if j < n then some (H.size + 1 + j) else none) fun _ _ => none) H.size))))))
        rw [gF_q, gF_q, gF_q]
        exact hq
    · by_cases e2 : H.size < b ∧ b ≤ H.size + n
      · obtain ⟨j, rfl⟩ : ∃ j, b = H.size + 1 + j := ⟨b - H.size - 1, by omega⟩
        have hj : j < n := by omega
        refine ⟨fun _ => by omega, fun q => ?_, fun _ => ?_, fun q => ?_⟩
        · have q : gF κ.1 H.size n 14 (fun _ => 9) (H.size + 1 + j) < 9 := q
          rw [gF_i hj] at q; omega
        · show H1[H.size + 1 + j]? = some (vp_cell (g.2.1 ((gF κ.1 H.size n 14 fun _ => 9) (H.size + 1 + j))) ((gF κ.2.1 H.size n n fun _ => m) (H.size + 1 + j), .inl ((gF I H.size n (fun _ => 0) fun _ _ => 0) (H.size + 1 + j))))
          rw [gF_i hj, gF_i hj, gF_i hj]
          exact hi j hj
        · have q : 11 ≤ gF κ.1 H.size n 14 (fun _ => 9) (H.size + 1 + j) ∧ gF κ.1 H.size n 14 (fun _ => 9) (H.size + 1 + j) < 15 := q
          rw [gF_i hj] at q; omega
      · have eo : b < H.size ∨ H.size + n < b := by omega
        have eH : H1[b]? = H[b]? := by
          rcases eo with h1 | h1
          · exact ho b h1
          · rw [Array.getElem?_eq_none (by omega), Array.getElem?_eq_none (by omega)]
        exact ⟨fun k => (hM b).1 (by
          have k : gF κ.1 H.size n 14 (fun _ => 9) b < 15 := k
          rw [gF_o eo] at k; exact k), (hM b).2.keep eH (gF_o eo) (gF_o eo) rfl (show gF κ.1 H.size n 14 (fun _ => 9) b = κ.1 b from gF_o eo) (show gF κ.2.1 H.size n n (fun _ => m) b = κ.2.1 b from gF_o eo)⟩
  · refine ⟨⟨fun a ha => ⟨show gF κ.1 H.size n 14 (fun _ => 9) a = κ.1 a from gF_o (Or.inl (hf a ha)), show gF κ.2.1 H.size n n (fun _ => m) a = κ.2.1 a from gF_o (Or.inl (hf a ha)), show gF κ.2.2 H.size n t (fun a => t2 + (a - H.size - 1)) a = κ.2.2 a from gF_o (Or.inl (hf a ha))⟩, fun x hx => ?_, fun a ha _ => ⟨gF_o (Or.inl (hf a ha)), gF_o (Or.inl (hf a ha))⟩⟩, if_pos rfl, show gF κ.1 H.size n 14 (fun _ => 9) H.size = 14 from gF_q, show gF κ.2.1 H.size n n (fun _ => m) H.size = n from gF_q, show gF κ.2.2 H.size n t (fun a => t2 + (a - H.size - 1)) H.size = t from gF_q, gF_q, fun q => absurd (hf _ q) (by omega), fun i hi => ?_⟩
    · show (if x = t then H.size else if t2 ≤ x ∧ x < t2 + n then H.size + 1 + (x - t2) else A x) = A x
      rw [if_neg (fun q => hx (Or.inl q)), if_neg (fun q => hx (Or.inr q))]
    · have eA : (if t2 + i = t then H.size else if t2 ≤ t2 + i ∧ t2 + i < t2 + n then H.size + 1 + (t2 + i - t2) else A (t2 + i)) = H.size + 1 + i := by
        rw [if_neg (by omega), if_pos (by omega)]
        omega
      show gF R H.size n _ _ H.size i = some (if t2 + i = t then H.size else if t2 ≤ t2 + i ∧ t2 + i < t2 + n then H.size + 1 + (t2 + i - t2) else A (t2 + i)) ∧ gF κ.1 H.size n 14 (fun _ => 9) (if t2 + i = t then H.size else if t2 ≤ t2 + i ∧ t2 + i < t2 + n then H.size + 1 + (t2 + i - t2) else A (t2 + i)) = 9 ∧ gF κ.2.1 H.size n n (fun _ => m) (if t2 + i = t then H.size else if t2 ≤ t2 + i ∧ t2 + i < t2 + n then H.size + 1 + (t2 + i - t2) else A (t2 + i)) = m ∧ gF κ.2.2 H.size n t (fun a => t2 + (a - H.size - 1)) (if t2 + i = t then H.size else if t2 ≤ t2 + i ∧ t2 + i < t2 + n then H.size + 1 + (t2 + i - t2) else A (t2 + i)) = t2 + i ∧ gF I H.size n (fun _ => 0) (fun _ _ => 0) (if t2 + i = t then H.size else if t2 ≤ t2 + i ∧ t2 + i < t2 + n then H.size + 1 + (t2 + i - t2) else A (t2 + i)) = (fun _ => 0)
      rw [eA, gF_q, gF_i hi, gF_i hi, gF_i hi, gF_i hi, if_pos hi]
      exact ⟨rfl, rfl, rfl, by omega, rfl⟩
