/-! ===== grams ===== -/
/-- the k-th gram of a word: the numbers of its two signs, 0 for its ends -/
def gp (L : Nat) (T : Nat → Nat) (k : Nat) : Nat × Nat := (if k = 0 then 0 else T (k - 1) - 96, if k = L then 0 else T k - 96)
def mcode (g : Nat × Nat) : Nat := 28 * g.1 + (if g.2 = 0 then 27 else g.2)
def ccode (g : Nat × Nat) : Nat := 27 * g.1 + g.2
/-- how often a gram of this code is among the first n of a word; in the first n signs; in all -/
def gcw (cd : Nat × Nat → Nat) (L : Nat) (T : Nat → Nat) (c n : Nat) : Nat := sm (fun k => if cd (gp L T k) = c then 1 else 0) n
def gcs (cd : Nat × Nat → Nat) (S : Sg) (c n : Nat) : Nat := sm (fun i => if 0 < S.2.1 i then gcw cd (S.2.1 i) (S.2.2.2 i) c (S.2.1 i + 1) else 0) n
def gct (cd : Nat × Nat → Nat) (S : Sg) (c : Nat) : Nat := gcs cd S c S.1
/-- the letters of a word are such -/
def ltr (L : Nat) (T : Nat → Nat) : Prop := ∀ j, j < L → 97 ≤ T j ∧ T j ≤ 122
/-- a segment as it may be -/
def okS (S : Sg) : Prop := 1 ≤ S.1 ∧ S.1 ≤ 8 ∧ ∀ i, i < S.1 → S.2.1 i ≤ 12 ∧ S.2.2.1 i < 10 ∧ ltr (S.2.1 i) (S.2.2.2 i)
theorem gp_lt {L : Nat} {T : Nat → Nat} {k : Nat} (h : ltr L T) (hk : k ≤ L) : (gp L T k).1 ≤ 26 ∧ (gp L T k).2 ≤ 26 := by
  unfold gp
  refine ⟨?_, ?_⟩
  · dsimp only
    split
    · omega
    · have := h (k - 1) (by omega)
      omega
  · dsimp only
    split
    · omega
    · have := h k (by omega)
      omega
theorem mcode_lt {L : Nat} {T : Nat → Nat} {k : Nat} (h : ltr L T) (hk : k ≤ L) : mcode (gp L T k) < 784 := by
  have := gp_lt h hk
  unfold mcode
  split <;> omega
theorem gs_letter {c : Nat} (h : 97 ≤ c) (h2 : c ≤ 122) : (if nI c = nI 94 then nI 0 else if nI c = nI 36 then nI 27 else nI c - nI 97 + nI 1) = nI (c - 96) := by
  have e1 : ¬ nI c = nI 94 := fun e => by
    have := (nI_eq (a := c) (b := 94) (by omega) (by decide)).mp e
    omega
  have e2 : ¬ nI c = nI 36 := fun e => by
    have := (nI_eq (a := c) (b := 36) (by omega) (by decide)).mp e
    omega
  rw [if_neg e1, if_neg e2, pk_sub h, nI_add, show c - 97 + 1 = c - 96 by omega]
theorem sm_bump {f f' : Nat → Nat} {c d : Nat} (h : ∀ j, j ≠ c → f' j = f j) (hc : f' c = f c + d) : ∀ n, sm f' n = sm f n + (if c < n then d else 0)
  | 0 => by simp [sm]
  | n + 1 => by
    rw [sm, sm, sm_bump h hc n]
    by_cases e : n = c
    · subst e
      rw [if_neg (by omega), if_pos (by omega), hc]
      omega
    · rw [h n e]
      by_cases e2 : c < n
      · rw [if_pos e2, if_pos (by omega)]
        omega
      · rw [if_neg e2, if_neg (by omega)]
        omega
def mgr (I : Iz) (A : Nat → Nat) (f : Nat → Nat) : Prop := ∀ c, c < 784 → I (A 153) c = nI (f c)
theorem mgr.to {I : Iz} {A : Nat → Nat} {f g : Nat → Nat} (h : mgr I A f) (e : ∀ c, f c = g c) : mgr I A g := fun c hc => by rw [← e c]; exact h c hc
theorem mgr.put {I : Iz} {A : Nat → Nat} {f g : Nat → Nat} {c0 x : Nat} (h : mgr I A f) (e : ∀ c, c ≠ c0 → g c = f c) (hx : x = g c0) : mgr (u2 I (A 153) c0 (nI x)) A g := fun c hc => by
  by_cases q : c = c0
  · subst q
    rw [u2_eq, hx]
  · rw [u2_at q, e c q]
    exact h c hc
theorem gcw_s {cd : Nat × Nat → Nat} {L : Nat} {T : Nat → Nat} {c n : Nat} : gcw cd L T c (n + 1) = gcw cd L T c n + (if cd (gp L T n) = c then 1 else 0) := rfl
theorem gcs_s {cd : Nat × Nat → Nat} {S : Sg} {c n : Nat} : gcs cd S c (n + 1) = gcs cd S c n + (if 0 < S.2.1 n then gcw cd (S.2.1 n) (S.2.2.2 n) c (S.2.1 n + 1) else 0) := rfl
/-- the counts behind the first k grams of the sign i -/
def gck (S : Sg) (i k c : Nat) : Nat := gcs mcode S c i + (if 0 < S.2.1 i then gcw mcode (S.2.1 i) (S.2.2.2 i) c k else 0)
theorem gck_0 (S : Sg) (i c : Nat) : gck S i 0 c = gcs mcode S c i := by
  unfold gck gcw
  split <;> rfl
theorem gck_e (S : Sg) (i k c : Nat) (h : ¬ 0 < S.2.1 i ∨ k = S.2.1 i + 1) : gck S i k c = gcs mcode S c (i + 1) := by
  unfold gck
  rw [gcs_s]
  rcases h with h | h
  · rw [if_neg h, if_neg h]
  · rw [h]
theorem gck_s (S : Sg) (i k c : Nat) (h : 0 < S.2.1 i) : gck S i (k + 1) c = gck S i k c + (if mcode (gp (S.2.1 i) (S.2.2.2 i) k) = c then 1 else 0) := by
  unfold gck
  rw [if_pos h, if_pos h, gcw_s]
  omega
