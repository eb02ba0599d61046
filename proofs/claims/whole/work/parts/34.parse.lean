/-! ===== a page read as a segment ===== -/
theorem vup_s {α : Type} {f : Nat → α} {k : Nat} {v : α} : va_up f k v k = v := by unfold va_up; exact if_pos rfl
theorem vup_n {α : Type} {f : Nat → α} {k j : Nat} {v : α} (h : j ≠ k) : va_up f k v j = f j := by unfold va_up; exact if_neg h
/-- what a letter adds: the sign, and of each its letters' number, digit, letters -/
def prst (p : Sg) (c : Nat) : Sg :=
  if c = 32 then (p.1 + 1, va_up p.2.1 (p.1 + 1) 0, va_up p.2.2.1 (p.1 + 1) 0, p.2.2.2)
  else if 49 ≤ c ∧ c ≤ 57 then (p.1, p.2.1, va_up p.2.2.1 p.1 (c - 48), p.2.2.2)
  else if (97 ≤ c ∧ c ≤ 122) ∧ p.2.1 p.1 < 12 then (p.1, va_up p.2.1 p.1 (p.2.1 p.1 + 1), p.2.2.1, u2 p.2.2.2 p.1 (p.2.1 p.1) c)
  else p
def prs (pg : Nat → Nat) : Nat → Sg
  | 0 => (0, fun _ => 0, fun _ => 0, fun _ _ => 0)
  | n + 1 => prst (prs pg n) (pg n)
/-- the segment that the page is -/
def sgOf (pg : Nat → Nat) (n : Nat) : Sg := ((prs pg n).1 + 1, (prs pg n).2.1, (prs pg n).2.2.1, (prs pg n).2.2.2)
def okI (L D : Nat) (T : Nat → Nat) : Prop := L ≤ 12 ∧ D < 10 ∧ ltr L T ∧ (0 < L → D = 0) ∧ (L = 0 → 1 ≤ D)
def gsm (L : Nat → Nat) (k : Nat) : Nat := sm (fun i => if 0 < L i then L i + 1 else 0) k
theorem gsm_up {L : Nat → Nat} {k j v : Nat} (h : k ≤ j) : gsm (va_up L j v) k = gsm L k := sm_congr (fun i hi => by rw [vup_n (by omega)])
/-- the state and what was read -/
def PIv (n : Nat) (q : Nat × Nat × Nat) (p : Sg) : Prop :=
  p.1 = q.2.1 ∧ q.2.1 ≤ 7 ∧ q.1 ≤ 4 ∧ (q.1 = 0 ∨ q.1 = 2 → p.2.1 p.1 = 0 ∧ p.2.2.1 p.1 = 0) ∧ (q.1 = 1 → p.2.1 p.1 = q.2.2 ∧ 0 < q.2.2 ∧ q.2.2 ≤ 12 ∧ p.2.2.1 p.1 = 0) ∧ (q.1 = 3 ∨ q.1 = 4 → p.2.1 p.1 = 0 ∧ 1 ≤ p.2.2.1 p.1 ∧ p.2.2.1 p.1 < 10) ∧
  ltr (p.2.1 p.1) (p.2.2.2 p.1) ∧ (∀ i, i < p.1 → okI (p.2.1 i) (p.2.2.1 i) (p.2.2.2 i)) ∧ gsm p.2.1 p.1 + p.2.1 p.1 ≤ n
theorem PIv.okc {n : Nat} {q : Nat × Nat × Nat} {p : Sg} (h : PIv n q p) (hs : q.1 = 1 ∨ q.1 = 4) : okI (p.2.1 p.1) (p.2.2.1 p.1) (p.2.2.2 p.1) := by
  obtain ⟨a1, a2, a3, a4, a5, a6, a7, a8, a9⟩ := h
  unfold okI
  rcases hs with e | e
  · have := a5 e
    exact ⟨by omega, by omega, a7, fun _ => by omega, fun _ => by omega⟩
  · have := a6 (Or.inr e)
    exact ⟨by omega, by omega, a7, fun _ => by omega, fun _ => by omega⟩
theorem PIv.space {n : Nat} {q : Nat × Nat × Nat} {p : Sg} (h : PIv n q p) (hs : q.1 = 1 ∨ q.1 = 4) (hk : q.2.1 < 7) : PIv (n + 1) (0, q.2.1 + 1, 0) (prst p 32) := by
  have hok := h.okc hs
  obtain ⟨a1, a2, a3, a4, a5, a6, a7, a8, a9⟩ := h
  unfold prst
  rw [if_pos rfl]
  unfold PIv
  dsimp only
  refine ⟨by omega, by omega, by omega, fun _ => ⟨vup_s, vup_s⟩, fun e => absurd e (by decide), fun e => absurd e (by decide), by rw [vup_s]; exact fun j hj => absurd hj (by omega), fun i hi => ?_, ?_⟩
  · rw [vup_n (by omega), vup_n (by omega)]
    by_cases e : i = p.1
    · rw [e]; exact hok
    · exact a8 i (by omega)
  · rw [gsm_up (by omega), vup_s]
    show gsm p.2.1 p.1 + (if 0 < p.2.1 p.1 then p.2.1 p.1 + 1 else 0) + 0 ≤ n + 1
    split <;> omega
theorem PIv.letter {n : Nat} {q : Nat × Nat × Nat} {p : Sg} {c : Nat} (h : PIv n q p) (hs : (q.1 = 0 ∧ p.2.1 p.1 = 0) ∨ (q.1 = 1 ∧ q.2.2 < 12)) (hc : 97 ≤ c ∧ c ≤ 122) : PIv (n + 1) (1, q.2.1, p.2.1 p.1 + 1) (prst p c) := by
  obtain ⟨a1, a2, a3, a4, a5, a6, a7, a8, a9⟩ := h
  have hD : p.2.2.1 p.1 = 0 := by
    rcases hs with ⟨e, _⟩ | ⟨e, _⟩
    · exact (a4 (Or.inl e)).2
    · exact (a5 e).2.2.2
  have hL : p.2.1 p.1 < 12 := by
    rcases hs with ⟨_, e⟩ | ⟨e, e2⟩
    · omega
    · have := a5 e; omega
  unfold prst
  rw [if_neg (by omega), if_neg (by omega), if_pos ⟨hc, hL⟩]
  unfold PIv
  dsimp only
  refine ⟨a1, a2, by omega, fun e => absurd e (by decide), fun _ => ⟨vup_s, by omega, by omega, hD⟩, fun e => absurd e (by decide), ?_, fun i hi => ?_, ?_⟩
  · rw [vup_s]
    intro j hj
    by_cases e : j = p.2.1 p.1
    · rw [e, u2_eq]; exact hc
    · rw [u2_at e]; exact a7 j (by omega)
  · rw [vup_n (by omega), u2_ne (by omega)]
    exact a8 i hi
  · rw [gsm_up (by omega), vup_s]
    omega
theorem PIv.digit {n : Nat} {q : Nat × Nat × Nat} {p : Sg} {c : Nat} (h : PIv n q p) (hs : q.1 = 2) (hc : 49 ≤ c ∧ c ≤ 57) : PIv (n + 1) (3, q.2.1, 0) (prst p c) := by
  obtain ⟨a1, a2, a3, a4, a5, a6, a7, a8, a9⟩ := h
  unfold prst
  rw [if_neg (by omega), if_pos hc]
  unfold PIv
  dsimp only
  have := a4 (Or.inr hs)
  refine ⟨a1, a2, by omega, fun e => absurd e (by decide), fun e => absurd e (by decide), fun _ => ⟨this.1, by rw [vup_s]; omega, by rw [vup_s]; omega⟩, a7, fun i hi => ?_, by omega⟩
  rw [vup_n (by omega)]
  exact a8 i hi
theorem PIv.other {n : Nat} {q : Nat × Nat × Nat} {p : Sg} {c s : Nat} (h : PIv n q p) (hc : c = 91 ∨ c = 93) (hs : (q.1 = 0 ∧ s = 2) ∨ (q.1 = 3 ∧ s = 4)) : PIv (n + 1) (s, q.2.1, 0) (prst p c) := by
  obtain ⟨a1, a2, a3, a4, a5, a6, a7, a8, a9⟩ := h
  unfold prst
  rw [if_neg (by omega), if_neg (by omega), if_neg (by omega)]
  unfold PIv
  dsimp only
  refine ⟨a1, a2, by omega, fun e => ?_, fun e => absurd e (by omega), fun e => ?_, a7, a8, by omega⟩
  · exact a4 (Or.inl (by omega))
  · exact a6 (Or.inl (by omega))
theorem PIv.step {n : Nat} {q q' : Nat × Nat × Nat} {p : Sg} {c : Nat} (h : PIv n q p) (ha : ast q c = some q') : PIv (n + 1) q' (prst p c) := by
  have h' := h
  obtain ⟨a1, a2, a3, a4, a5, a6, a7, a8, a9⟩ := h
  unfold ast at ha
  by_cases s0 : q.1 = 0
  · rw [if_pos s0] at ha
    by_cases e : c = 91
    · rw [if_pos e] at ha
      cases ha
      exact h'.other (Or.inl e) (Or.inl ⟨s0, rfl⟩)
    · rw [if_neg e] at ha
      by_cases e2 : 97 ≤ c ∧ c ≤ 122
      · rw [if_pos e2] at ha
        cases ha
        have := h'.letter (Or.inl ⟨s0, (a4 (Or.inl s0)).1⟩) e2
        rw [(a4 (Or.inl s0)).1] at this
        exact this
      · rw [if_neg e2] at ha
        cases ha
  · rw [if_neg s0] at ha
    by_cases s1 : q.1 = 1
    · rw [if_pos s1] at ha
      by_cases e2 : 97 ≤ c ∧ c ≤ 122
      · rw [if_pos e2] at ha
        by_cases e3 : q.2.2 < 12
        · rw [if_pos e3] at ha
          cases ha
          have := h'.letter (Or.inr ⟨s1, e3⟩) e2
          rw [(a5 s1).1] at this
          exact this
        · rw [if_neg e3] at ha
          cases ha
      · rw [if_neg e2] at ha
        by_cases e3 : c = 32 ∧ q.2.1 < 7
        · rw [if_pos e3] at ha
          cases ha
          obtain ⟨rfl, e4⟩ := e3
          exact h'.space (Or.inl s1) e4
        · rw [if_neg e3] at ha
          cases ha
    · rw [if_neg s1] at ha
      by_cases s2 : q.1 = 2
      · rw [if_pos s2] at ha
        by_cases e2 : 49 ≤ c ∧ c ≤ 57
        · rw [if_pos e2] at ha
          cases ha
          exact h'.digit s2 e2
        · rw [if_neg e2] at ha
          cases ha
      · rw [if_neg s2] at ha
        by_cases s3 : q.1 = 3
        · rw [if_pos s3] at ha
          by_cases e2 : c = 93
          · rw [if_pos e2] at ha
            cases ha
            exact h'.other (Or.inr e2) (Or.inr ⟨s3, rfl⟩)
          · rw [if_neg e2] at ha
            cases ha
        · rw [if_neg s3] at ha
          by_cases e3 : c = 32 ∧ q.2.1 < 7
          · rw [if_pos e3] at ha
            cases ha
            obtain ⟨rfl, e4⟩ := e3
            exact h'.space (Or.inr (by omega)) e4
          · rw [if_neg e3] at ha
            cases ha
theorem prs_PIv {pg : Nat → Nat} : ∀ {n : Nat} {q : Nat × Nat × Nat}, aru pg n = some q → PIv n q (prs pg n)
  | 0, q, h => by
    cases h
    exact ⟨rfl, by decide, by decide, fun _ => ⟨rfl, rfl⟩, fun e => absurd e (by decide), fun e => absurd e (by decide), fun j hj => absurd hj (by simp [prs]), fun i hi => absurd hi (by simp [prs]), by simp [prs, gsm, sm]⟩
  | n + 1, q, h => by
    have h2 : (aru pg n).bind (fun q => ast q (pg n)) = some q := h
    obtain ⟨q0, h3, h4⟩ := Option.bind_eq_some_iff.mp h2
    exact (prs_PIv h3).step h4
theorem segB_ok {pg : Nat → Nat} {n : Nat} (h : segB pg n = true) : okS (sgOf pg n) ∧ grn (sgOf pg n) ≤ n + 1 ∧ ∀ i, i < (sgOf pg n).1 → okI ((sgOf pg n).2.1 i) ((sgOf pg n).2.2.1 i) ((sgOf pg n).2.2.2 i) := by
  unfold segB at h
  cases hq : aru pg n with
  | none => rw [hq] at h; cases h
  | some q =>
    rw [hq] at h
    have hs : q.1 = 1 ∨ q.1 = 4 := by simpa using h
    have hp := prs_PIv hq
    have hc := hp.okc hs
    obtain ⟨a1, a2, a3, a4, a5, a6, a7, a8, a9⟩ := hp
    have hall : ∀ i, i < (sgOf pg n).1 → okI ((sgOf pg n).2.1 i) ((sgOf pg n).2.2.1 i) ((sgOf pg n).2.2.2 i) := fun i hi => by
      have hi' : i < (prs pg n).1 + 1 := hi
      by_cases e : i = (prs pg n).1
      · rw [e]; exact hc
      · exact a8 i (by omega)
    refine ⟨⟨?_, ?_, fun i hi => ⟨(hall i hi).1, (hall i hi).2.1, (hall i hi).2.2.1⟩⟩, ?_, hall⟩
    · show 1 ≤ (prs pg n).1 + 1; omega
    · show (prs pg n).1 + 1 ≤ 8; omega
    · show gsm (prs pg n).2.1 (prs pg n).1 + (if 0 < (prs pg n).2.1 (prs pg n).1 then (prs pg n).2.1 (prs pg n).1 + 1 else 0) ≤ n + 1
      split <;> omega
