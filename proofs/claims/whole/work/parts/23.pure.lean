/-! ===== segments and what they cost ===== -/
/-- how many signs; of each: its letters' number, its digit, its letters -/
abbrev Sg : Type := Nat × (Nat → Nat) × (Nat → Nat) × (Nat → Nat → Nat)
def cst (w L : Nat) : Nat := if 0 < L then 10 else w
def alk (L1 : Nat) (T1 : Nat → Nat) (L2 : Nat) (T2 : Nat → Nat) : Nat := (10 * lev T1 T2 L1 L2 + max L1 L2 - 1) / max L1 L2
/-- what BOTH costs, N where a word faces a tag -/
def bcq (N w L1 D1 : Nat) (T1 : Nat → Nat) (L2 D2 : Nat) (T2 : Nat → Nat) : Nat := if 0 < L1 then (if 0 < L2 then alk L1 T1 L2 T2 else N) else (if 0 < L2 then N else if D1 = D2 then 0 else w)
def bcn (N w : Nat) (S T : Sg) (i j : Nat) : Nat := bcq N w (S.2.1 i) (S.2.2.1 i) (S.2.2.2 i) (T.2.1 j) (T.2.2.1 j) (T.2.2.2 j)
def rst (w : Nat) (S T : Sg) : Nat → Nat → Nat
  | 0, 0 => 0
  | p + 1, 0 => rst w S T p 0 + cst w (S.2.1 (S.1 - (p + 1)))
  | 0, q + 1 => rst w S T 0 q + cst w (T.2.1 (T.1 - (q + 1)))
  | p + 1, q + 1 => min (bcn 1000000 w S T (S.1 - (p + 1)) (T.1 - (q + 1)) + rst w S T p q) (min (cst w (S.2.1 (S.1 - (p + 1))) + rst w S T p (q + 1)) (cst w (T.2.1 (T.1 - (q + 1))) + rst w S T (p + 1) q))
termination_by p q => p + q
/-- the least cost from the sign i of the one and the sign j of the other on -/
def pay (w : Nat) (S T : Sg) (i j : Nat) : Nat := rst w S T (S.1 - i) (T.1 - j)
theorem pay_nm (w : Nat) (S T : Sg) : pay w S T S.1 T.1 = 0 := by
  unfold pay
  rw [Nat.sub_self, Nat.sub_self, rst]
theorem pay_im {w : Nat} {S T : Sg} {i : Nat} (h : i < S.1) : pay w S T i T.1 = pay w S T (i + 1) T.1 + cst w (S.2.1 i) := by
  unfold pay
  rw [Nat.sub_self, show S.1 - i = (S.1 - (i + 1)) + 1 by omega, rst, show S.1 - (S.1 - (i + 1) + 1) = i by omega]
theorem pay_nj {w : Nat} {S T : Sg} {j : Nat} (h : j < T.1) : pay w S T S.1 j = pay w S T S.1 (j + 1) + cst w (T.2.1 j) := by
  unfold pay
  rw [Nat.sub_self, show T.1 - j = (T.1 - (j + 1)) + 1 by omega, rst, show T.1 - (T.1 - (j + 1) + 1) = j by omega]
theorem pay_ij {w : Nat} {S T : Sg} {i j : Nat} (hi : i < S.1) (hj : j < T.1) : pay w S T i j = min (bcn 1000000 w S T i j + pay w S T (i + 1) (j + 1)) (min (cst w (S.2.1 i) + pay w S T (i + 1) j) (cst w (T.2.1 j) + pay w S T i (j + 1))) := by
  unfold pay
  have e1 : S.1 - i = (S.1 - (i + 1)) + 1 := by omega
  have e2 : T.1 - j = (T.1 - (j + 1)) + 1 := by omega
  rw [e1, e2, rst, show S.1 - (S.1 - (i + 1) + 1) = i by omega, show T.1 - (T.1 - (j + 1) + 1) = j by omega]
theorem cst_le {w L : Nat} (h : w ≤ 20) : cst w L ≤ 20 := by
  unfold cst
  split <;> omega
theorem rst_le {w : Nat} {S T : Sg} (h : w ≤ 20) : ∀ p q : Nat, rst w S T p q ≤ 20 * (p + q)
  | 0, 0 => by rw [rst]; omega
  | p + 1, 0 => by
    rw [rst]
    have := rst_le (S := S) (T := T) h p 0
    have := cst_le (L := S.2.1 (S.1 - (p + 1))) h
    omega
  | 0, q + 1 => by
    rw [rst]
    have := rst_le (S := S) (T := T) h 0 q
    have := cst_le (L := T.2.1 (T.1 - (q + 1))) h
    omega
  | p + 1, q + 1 => by
    rw [rst]
    have := rst_le (S := S) (T := T) h p (q + 1)
    have := cst_le (L := S.2.1 (S.1 - (p + 1))) h
    omega
theorem pay_le {w : Nat} {S T : Sg} (h : w ≤ 20) (hS : S.1 ≤ 8) (hT : T.1 ≤ 8) (i j : Nat) : pay w S T i j ≤ 320 := by
  have := rst_le (S := S) (T := T) h (S.1 - i) (T.1 - j)
  unfold pay
  omega
theorem alk_le {L1 L2 : Nat} {T1 T2 : Nat → Nat} (h1 : L1 ≤ 12) (h2 : L2 ≤ 12) : alk L1 T1 L2 T2 ≤ 400 := by
  unfold alk
  have := lev_le T1 T2 L1 L2
  have := Nat.div_le_self (10 * lev T1 T2 L1 L2 + max L1 L2 - 1) (max L1 L2)
  omega
theorem bcq_cases (N w L1 D1 : Nat) (T1 : Nat → Nat) (L2 D2 : Nat) (T2 : Nat → Nat) (h1 : L1 ≤ 12) (h2 : L2 ≤ 12) (hw : w ≤ 20) : bcq N w L1 D1 T1 L2 D2 T2 ≤ 400 ∨ ∀ N', bcq N' w L1 D1 T1 L2 D2 T2 = N' := by
  unfold bcq
  have := alk_le (T1 := T1) (T2 := T2) h1 h2
  by_cases a : 0 < L1 <;> by_cases b : 0 < L2 <;> simp only [a, b, if_true, if_false]
  · exact Or.inl this
  · exact Or.inr (fun _ => by first | rfl | trivial)
  · exact Or.inr (fun _ => by first | rfl | trivial)
  · refine Or.inl ?_
    split <;> omega
/-- the great number doesn't matter -/
theorem bcq_N {N w L1 D1 : Nat} {T1 : Nat → Nat} {L2 D2 : Nat} {T2 : Nat → Nat} (h1 : L1 ≤ 12) (h2 : L2 ≤ 12) (hw : w ≤ 20) : bcq N w L1 D1 T1 L2 D2 T2 = bcq 1000000 w L1 D1 T1 L2 D2 T2 ∨ (bcq N w L1 D1 T1 L2 D2 T2 = N ∧ bcq 1000000 w L1 D1 T1 L2 D2 T2 = 1000000) := by
  unfold bcq
  by_cases a : 0 < L1 <;> by_cases b : 0 < L2 <;> simp [a, b]
/-! ===== the steps ===== -/
/-- which step stands at (i, j): 0 both, 1 out, 2 in -/
def knd (w : Nat) (S T : Sg) (i j : Nat) : Nat :=
  if i < S.1 ∧ j < T.1 ∧ bcn 1000000 w S T i j + pay w S T (i + 1) (j + 1) = pay w S T i j then 0
  else if i < S.1 ∧ cst w (S.2.1 i) + pay w S T (i + 1) j = pay w S T i j then 1 else 2
def nxt (w : Nat) (S T : Sg) (q : Nat × Nat) : Nat × Nat := if knd w S T q.1 q.2 = 0 then (q.1 + 1, q.2 + 1) else if knd w S T q.1 q.2 = 1 then (q.1 + 1, q.2) else (q.1, q.2 + 1)
/-- where the steps stand behind k of them -/
def pos (w : Nat) (S T : Sg) : Nat → Nat × Nat
  | 0 => (0, 0)
  | k + 1 => nxt w S T (pos w S T k)
/-- how many steps there are -/
def isNs (w : Nat) (S T : Sg) (k : Nat) : Prop := pos w S T k = (S.1, T.1) ∧ ∀ k', k' < k → pos w S T k' ≠ (S.1, T.1)
theorem isNs.one {w : Nat} {S T : Sg} {k k' : Nat} (h : isNs w S T k) (h' : isNs w S T k') : k = k' := by
  rcases Nat.lt_trichotomy k k' with e | e | e
  · exact absurd h.1 (h'.2 k e)
  · exact e
  · exact absurd h'.1 (h.2 k' e)
def stc (w : Nat) (S T : Sg) (k : Nat) : Nat :=
  if knd w S T (pos w S T k).1 (pos w S T k).2 = 0 then bcn 1000000 w S T (pos w S T k).1 (pos w S T k).2
  else if knd w S T (pos w S T k).1 (pos w S T k).2 = 1 then cst w (S.2.1 (pos w S T k).1) else cst w (T.2.1 (pos w S T k).2)
def st0 (w : Nat) (S T : Sg) (k : Nat) : Int32 := nI (knd w S T (pos w S T k).1 (pos w S T k).2)
def st1 (w : Nat) (S T : Sg) (k : Nat) : Int32 := nI (stc w S T k)
def st2 (w : Nat) (S T : Sg) (k : Nat) : Int32 := if knd w S T (pos w S T k).1 (pos w S T k).2 = 2 then -1 else nI (pos w S T k).1
def st3 (w : Nat) (S T : Sg) (k : Nat) : Int32 := if knd w S T (pos w S T k).1 (pos w S T k).2 = 1 then -1 else nI (pos w S T k).2
/-- whether the step k is one of a tag that costs something -/
def stt (w : Nat) (S T : Sg) (k : Nat) : Prop := 0 < stc w S T k ∧ (if knd w S T (pos w S T k).1 (pos w S T k).2 = 2 then T.2.1 (pos w S T k).2 = 0 else S.2.1 (pos w S T k).1 = 0)
/-! ===== sums ===== -/
def sm (f : Nat → Nat) : Nat → Nat
  | 0 => 0
  | n + 1 => sm f n + f n
theorem sm_le {f : Nat → Nat} {c : Nat} (h : ∀ i, f i ≤ c) : ∀ n, sm f n ≤ c * n
  | 0 => by simp [sm]
  | n + 1 => by
    have := sm_le h n
    have := h n
    rw [sm, Nat.mul_succ]
    omega
theorem sm_congr {f g : Nat → Nat} : ∀ {n : Nat}, (∀ i, i < n → f i = g i) → sm f n = sm g n
  | 0, _ => rfl
  | n + 1, h => by
    rw [sm, sm, sm_congr (fun i hi => h i (by omega)), h n (by omega)]
/-- what all signs cost -/
def cal (w : Nat) (S : Sg) : Nat := sm (fun i => cst w (S.2.1 i)) S.1
def wds (S : Sg) : Nat := sm (fun i => if 0 < S.2.1 i then 1 else 0) S.1
def grn (S : Sg) : Nat := sm (fun i => if 0 < S.2.1 i then S.2.1 i + 1 else 0) S.1
def sco (w : Nat) (S T : Sg) : Nat := 1000 - (1000 * pay w S T 0 0 + (cal w S + cal w T) - 1) / (cal w S + cal w T)
theorem rst_all {w : Nat} {S T : Sg} : ∀ p q : Nat, p ≤ S.1 → q ≤ T.1 → rst w S T p q + sm (fun i => cst w (S.2.1 i)) (S.1 - p) + sm (fun i => cst w (T.2.1 i)) (T.1 - q) ≤ cal w S + cal w T
  | 0, 0, _, _ => by rw [rst]; simp [cal]
  | p + 1, 0, hp, hq => by
    rw [rst]
    have := rst_all (w := w) (S := S) (T := T) p 0 (by omega) hq
    rw [show S.1 - p = (S.1 - (p + 1)) + 1 by omega, sm] at this
    omega
  | 0, q + 1, hp, hq => by
    rw [rst]
    have := rst_all (w := w) (S := S) (T := T) 0 q hp (by omega)
    rw [show T.1 - q = (T.1 - (q + 1)) + 1 by omega, sm] at this
    omega
  | p + 1, q + 1, hp, hq => by
    rw [rst]
    have := rst_all (w := w) (S := S) (T := T) p (q + 1) (by omega) hq
    rw [show S.1 - p = (S.1 - (p + 1)) + 1 by omega, sm] at this
    omega
theorem pay_all (w : Nat) (S T : Sg) : pay w S T 0 0 ≤ cal w S + cal w T := by
  have := rst_all (w := w) (S := S) (T := T) S.1 T.1 (Nat.le_refl _) (Nat.le_refl _)
  unfold pay
  simp only [Nat.sub_zero]
  omega
theorem quo_le {f a : Nat} (h : f ≤ a) (ha : 0 < a) : (1000 * f + a - 1) / a ≤ 1000 := by
  have h2 : (1000 * f + a - 1) / a < 1001 := by
    rw [Nat.div_lt_iff_lt_mul ha]
    omega
  omega
theorem cst_pos {w L : Nat} (h : 1 ≤ w) : 1 ≤ cst w L := by
  unfold cst
  split <;> omega
theorem sm_pos {f : Nat → Nat} (h : ∀ i, 1 ≤ f i) : ∀ n, n ≤ sm f n
  | 0 => by simp [sm]
  | n + 1 => by
    have := sm_pos h n
    have := h n
    rw [sm]
    omega
theorem cal_le {w : Nat} {S : Sg} (h : w ≤ 20) (hS : S.1 ≤ 8) : cal w S ≤ 160 := by
  have := sm_le (f := fun i => cst w (S.2.1 i)) (fun i => cst_le h) S.1
  unfold cal
  omega
theorem cal_pos {w : Nat} {S : Sg} (h : 1 ≤ w) (hS : 1 ≤ S.1) : 1 ≤ cal w S := by
  have := sm_pos (f := fun i => cst w (S.2.1 i)) (fun i => cst_pos h) S.1
  unfold cal
  omega
