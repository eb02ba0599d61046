/-! ===== the reference: a page is read ===== -/
/-- what the reading of a page may alter: the last slot of the signs, the stage -/
def RF (A : Nat → Nat) (I I1 : Iz) : Prop := (∀ a, a ≠ A 130 → a ≠ A 134 → a ≠ A 136 → a ≠ A 137 → a ≠ A 138 → I1 a = I a) ∧ (∀ f, f ≠ 14 → I1 (A 130) f = I (A 130) f) ∧ (∀ j, j ≠ 13 → I1 (A 134) j = I (A 134) j) ∧ (∀ j, j < 104 → I1 (A 136) j = I (A 136) j) ∧ (∀ j, j < 104 → I1 (A 137) j = I (A 137) j) ∧ ∀ j, j < 1248 → I1 (A 138) j = I (A 138) j
theorem RF.rf {A : Nat → Nat} {I : Iz} : RF A I I := ⟨fun _ _ _ _ _ _ => rfl, fun _ _ => rfl, fun _ _ => rfl, fun _ _ => rfl, fun _ _ => rfl, fun _ _ => rfl⟩
theorem RF.tr {A : Nat → Nat} {I I1 I2 : Iz} (h : RF A I I1) (k : RF A I1 I2) : RF A I I2 := ⟨fun a a1 a2 a3 a4 a5 => (k.1 a a1 a2 a3 a4 a5).trans (h.1 a a1 a2 a3 a4 a5), fun f q => (k.2.1 f q).trans (h.2.1 f q), fun f q => (k.2.2.1 f q).trans (h.2.2.1 f q), fun f q => (k.2.2.2.1 f q).trans (h.2.2.2.1 f q), fun f q => (k.2.2.2.2.1 f q).trans (h.2.2.2.2.1 f q), fun f q => (k.2.2.2.2.2 f q).trans (h.2.2.2.2.2 f q)⟩
theorem RF.put {κ : Kz} {R : Rz} {A : Nat → Nat} (hm : LM κ R A) {I I1 : Iz} (h : RF A I I1) {t j : Nat} (x : Int32) (ht : (t = 130 ∧ j = 14) ∨ (t = 134 ∧ j = 13) ∨ (t = 136 ∧ 104 ≤ j) ∨ (t = 137 ∧ 104 ≤ j) ∨ (t = 138 ∧ 1248 ≤ j)) : RF A I (u2 I1 (A t) j x) := by
  have e0_4 : A 130 ≠ A 134 := hm.ne 0 4 (by decide) (by decide) (by decide)
  have e0_6 : A 130 ≠ A 136 := hm.ne 0 6 (by decide) (by decide) (by decide)
  have e0_7 : A 130 ≠ A 137 := hm.ne 0 7 (by decide) (by decide) (by decide)
  have e0_8 : A 130 ≠ A 138 := hm.ne 0 8 (by decide) (by decide) (by decide)
  have e4_0 : A 134 ≠ A 130 := hm.ne 4 0 (by decide) (by decide) (by decide)
  have e4_6 : A 134 ≠ A 136 := hm.ne 4 6 (by decide) (by decide) (by decide)
  have e4_7 : A 134 ≠ A 137 := hm.ne 4 7 (by decide) (by decide) (by decide)
  have e4_8 : A 134 ≠ A 138 := hm.ne 4 8 (by decide) (by decide) (by decide)
  have e6_0 : A 136 ≠ A 130 := hm.ne 6 0 (by decide) (by decide) (by decide)
  have e6_4 : A 136 ≠ A 134 := hm.ne 6 4 (by decide) (by decide) (by decide)
  have e6_7 : A 136 ≠ A 137 := hm.ne 6 7 (by decide) (by decide) (by decide)
  have e6_8 : A 136 ≠ A 138 := hm.ne 6 8 (by decide) (by decide) (by decide)
  have e7_0 : A 137 ≠ A 130 := hm.ne 7 0 (by decide) (by decide) (by decide)
  have e7_4 : A 137 ≠ A 134 := hm.ne 7 4 (by decide) (by decide) (by decide)
  have e7_6 : A 137 ≠ A 136 := hm.ne 7 6 (by decide) (by decide) (by decide)
  have e7_8 : A 137 ≠ A 138 := hm.ne 7 8 (by decide) (by decide) (by decide)
  have e8_0 : A 138 ≠ A 130 := hm.ne 8 0 (by decide) (by decide) (by decide)
  have e8_4 : A 138 ≠ A 134 := hm.ne 8 4 (by decide) (by decide) (by decide)
  have e8_6 : A 138 ≠ A 136 := hm.ne 8 6 (by decide) (by decide) (by decide)
  have e8_7 : A 138 ≠ A 137 := hm.ne 8 7 (by decide) (by decide) (by decide)
  obtain ⟨h1, h2, h3, h4, h5, h6⟩ := h
  rcases ht with ⟨rfl, hj⟩ | ⟨rfl, hj⟩ | ⟨rfl, hj⟩ | ⟨rfl, hj⟩ | ⟨rfl, hj⟩
  · exact ⟨fun a a1 a2 a3 a4 a5 => by rw [u2_ne a1]; exact h1 a a1 a2 a3 a4 a5, fun f q => by rw [u2_at (by omega)]; exact h2 f q, fun f q => by rw [u2_ne e4_0]; exact h3 f q, fun f q => by rw [u2_ne e6_0]; exact h4 f q, fun f q => by rw [u2_ne e7_0]; exact h5 f q, fun f q => by rw [u2_ne e8_0]; exact h6 f q⟩
  · exact ⟨fun a a1 a2 a3 a4 a5 => by rw [u2_ne a2]; exact h1 a a1 a2 a3 a4 a5, fun f q => by rw [u2_ne e0_4]; exact h2 f q, fun f q => by rw [u2_at (by omega)]; exact h3 f q, fun f q => by rw [u2_ne e6_4]; exact h4 f q, fun f q => by rw [u2_ne e7_4]; exact h5 f q, fun f q => by rw [u2_ne e8_4]; exact h6 f q⟩
  · exact ⟨fun a a1 a2 a3 a4 a5 => by rw [u2_ne a3]; exact h1 a a1 a2 a3 a4 a5, fun f q => by rw [u2_ne e0_6]; exact h2 f q, fun f q => by rw [u2_ne e4_6]; exact h3 f q, fun f q => by rw [u2_at (by omega)]; exact h4 f q, fun f q => by rw [u2_ne e7_6]; exact h5 f q, fun f q => by rw [u2_ne e8_6]; exact h6 f q⟩
  · exact ⟨fun a a1 a2 a3 a4 a5 => by rw [u2_ne a4]; exact h1 a a1 a2 a3 a4 a5, fun f q => by rw [u2_ne e0_7]; exact h2 f q, fun f q => by rw [u2_ne e4_7]; exact h3 f q, fun f q => by rw [u2_ne e6_7]; exact h4 f q, fun f q => by rw [u2_at (by omega)]; exact h5 f q, fun f q => by rw [u2_ne e8_7]; exact h6 f q⟩
  · exact ⟨fun a a1 a2 a3 a4 a5 => by rw [u2_ne a5]; exact h1 a a1 a2 a3 a4 a5, fun f q => by rw [u2_ne e0_8]; exact h2 f q, fun f q => by rw [u2_ne e4_8]; exact h3 f q, fun f q => by rw [u2_ne e6_8]; exact h4 f q, fun f q => by rw [u2_ne e7_8]; exact h5 f q, fun f q => by rw [u2_at (by omega)]; exact h6 f q⟩
def msl (I : Iz) (A : Nat → Nat) (s L D : Nat) (T : Nat → Nat) : Prop := I (A 136) (104 + s) = nI L ∧ I (A 137) (104 + s) = nI D ∧ ∀ j, j < L → I (A 138) (12 * (104 + s) + j) = nI (T j)
/-- the reading's state: its stage and sign, what was read -/
def mrd (I : Iz) (A : Nat → Nat) (s : Nat) (p : Sg) : Prop := I (A 130) 14 = nI s ∧ I (A 134) 13 = nI p.1 ∧ ∀ i, i < p.1 ∨ (i = p.1 ∧ s ≠ 0) → msl I A i (p.2.1 i) (p.2.2.1 i) (p.2.2.2 i)
def ltI (I : Iz) (A : Nat → Nat) (k L c : Nat) : Iz := u2 (u2 (u2 I (A 138) (12 * (104 + k) + L) (nI c)) (A 136) (104 + k) (nI (L + 1))) (A 130) 14 (nI 1)
def bgI (I : Iz) (A : Nat → Nat) (k : Nat) : Iz := u2 (u2 I (A 136) (104 + k) (nI 0)) (A 137) (104 + k) (nI 0)
theorem ltI.rf {κ : Kz} {R : Rz} {A : Nat → Nat} (hm : LM κ R A) {I I1 : Iz} (h : RF A I I1) {k L c : Nat} : RF A I (ltI I1 A k L c) := ((h.put hm _ (Or.inr (Or.inr (Or.inr (Or.inr ⟨rfl, by omega⟩))))).put hm _ (Or.inr (Or.inr (Or.inl ⟨rfl, by omega⟩)))).put hm _ (Or.inl ⟨rfl, rfl⟩)
theorem bgI.rf {κ : Kz} {R : Rz} {A : Nat → Nat} (hm : LM κ R A) {I I1 : Iz} (h : RF A I I1) {k : Nat} : RF A I (bgI I1 A k) := (h.put hm _ (Or.inr (Or.inr (Or.inl ⟨rfl, by omega⟩)))).put hm _ (Or.inr (Or.inr (Or.inr (Or.inl ⟨rfl, by omega⟩))))
def mr2 (I : Iz) (A : Nat → Nat) (p : Sg) : Prop := I (A 134) 13 = nI p.1 ∧ ∀ i, i ≤ p.1 → msl I A i (p.2.1 i) (p.2.2.1 i) (p.2.2.2 i)
theorem mrd.to2 {A : Nat → Nat} {I : Iz} {s : Nat} {p : Sg} (h : mrd I A s p) (hs : s ≠ 0) : mr2 I A p := ⟨h.2.1, fun i hi => h.2.2 i (by omega)⟩
theorem mrd.stage {κ : Kz} {R : Rz} {A : Nat → Nat} (hm : LM κ R A) {I : Iz} {s' : Nat} {p : Sg} (h : mr2 I A p) : mrd (u2 I (A 130) 14 (nI s')) A s' p := by
  have e0_4 : A 130 ≠ A 134 := hm.ne 0 4 (by decide) (by decide) (by decide)
  have e0_6 : A 130 ≠ A 136 := hm.ne 0 6 (by decide) (by decide) (by decide)
  have e0_7 : A 130 ≠ A 137 := hm.ne 0 7 (by decide) (by decide) (by decide)
  have e0_8 : A 130 ≠ A 138 := hm.ne 0 8 (by decide) (by decide) (by decide)
  have e4_0 : A 134 ≠ A 130 := hm.ne 4 0 (by decide) (by decide) (by decide)
  have e4_6 : A 134 ≠ A 136 := hm.ne 4 6 (by decide) (by decide) (by decide)
  have e4_7 : A 134 ≠ A 137 := hm.ne 4 7 (by decide) (by decide) (by decide)
  have e4_8 : A 134 ≠ A 138 := hm.ne 4 8 (by decide) (by decide) (by decide)
  have e6_0 : A 136 ≠ A 130 := hm.ne 6 0 (by decide) (by decide) (by decide)
  have e6_4 : A 136 ≠ A 134 := hm.ne 6 4 (by decide) (by decide) (by decide)
  have e6_7 : A 136 ≠ A 137 := hm.ne 6 7 (by decide) (by decide) (by decide)
  have e6_8 : A 136 ≠ A 138 := hm.ne 6 8 (by decide) (by decide) (by decide)
  have e7_0 : A 137 ≠ A 130 := hm.ne 7 0 (by decide) (by decide) (by decide)
  have e7_4 : A 137 ≠ A 134 := hm.ne 7 4 (by decide) (by decide) (by decide)
  have e7_6 : A 137 ≠ A 136 := hm.ne 7 6 (by decide) (by decide) (by decide)
  have e7_8 : A 137 ≠ A 138 := hm.ne 7 8 (by decide) (by decide) (by decide)
  have e8_0 : A 138 ≠ A 130 := hm.ne 8 0 (by decide) (by decide) (by decide)
  have e8_4 : A 138 ≠ A 134 := hm.ne 8 4 (by decide) (by decide) (by decide)
  have e8_6 : A 138 ≠ A 136 := hm.ne 8 6 (by decide) (by decide) (by decide)
  have e8_7 : A 138 ≠ A 137 := hm.ne 8 7 (by decide) (by decide) (by decide)
  obtain ⟨h2, h3⟩ := h
  refine ⟨u2_eq, by rw [u2_ne e4_0]; exact h2, fun i hi => ?_⟩
  unfold msl
  rw [u2_ne e6_0, u2_ne e7_0, u2_ne e8_0]
  exact h3 i (by omega)
theorem mrd.begin {κ : Kz} {R : Rz} {A : Nat → Nat} (hm : LM κ R A) {I : Iz} {p : Sg} (h : mrd I A 0 p) (h0 : p.2.1 p.1 = 0) (h1 : p.2.2.1 p.1 = 0) : mr2 (bgI I A p.1) A p := by
  have e0_4 : A 130 ≠ A 134 := hm.ne 0 4 (by decide) (by decide) (by decide)
  have e0_6 : A 130 ≠ A 136 := hm.ne 0 6 (by decide) (by decide) (by decide)
  have e0_7 : A 130 ≠ A 137 := hm.ne 0 7 (by decide) (by decide) (by decide)
  have e0_8 : A 130 ≠ A 138 := hm.ne 0 8 (by decide) (by decide) (by decide)
  have e4_0 : A 134 ≠ A 130 := hm.ne 4 0 (by decide) (by decide) (by decide)
  have e4_6 : A 134 ≠ A 136 := hm.ne 4 6 (by decide) (by decide) (by decide)
  have e4_7 : A 134 ≠ A 137 := hm.ne 4 7 (by decide) (by decide) (by decide)
  have e4_8 : A 134 ≠ A 138 := hm.ne 4 8 (by decide) (by decide) (by decide)
  have e6_0 : A 136 ≠ A 130 := hm.ne 6 0 (by decide) (by decide) (by decide)
  have e6_4 : A 136 ≠ A 134 := hm.ne 6 4 (by decide) (by decide) (by decide)
  have e6_7 : A 136 ≠ A 137 := hm.ne 6 7 (by decide) (by decide) (by decide)
  have e6_8 : A 136 ≠ A 138 := hm.ne 6 8 (by decide) (by decide) (by decide)
  have e7_0 : A 137 ≠ A 130 := hm.ne 7 0 (by decide) (by decide) (by decide)
  have e7_4 : A 137 ≠ A 134 := hm.ne 7 4 (by decide) (by decide) (by decide)
  have e7_6 : A 137 ≠ A 136 := hm.ne 7 6 (by decide) (by decide) (by decide)
  have e7_8 : A 137 ≠ A 138 := hm.ne 7 8 (by decide) (by decide) (by decide)
  have e8_0 : A 138 ≠ A 130 := hm.ne 8 0 (by decide) (by decide) (by decide)
  have e8_4 : A 138 ≠ A 134 := hm.ne 8 4 (by decide) (by decide) (by decide)
  have e8_6 : A 138 ≠ A 136 := hm.ne 8 6 (by decide) (by decide) (by decide)
  have e8_7 : A 138 ≠ A 137 := hm.ne 8 7 (by decide) (by decide) (by decide)
  obtain ⟨-, h2, h3⟩ := h
  refine ⟨by unfold bgI; rw [u2_ne e4_7, u2_ne e4_6]; exact h2, fun i hi => ?_⟩
  unfold msl bgI
  rw [u2_ne e6_7, u2_ne e8_7, u2_ne e8_6]
  by_cases e : i = p.1
  · subst e
    rw [u2_eq, u2_eq, h0, h1]
    exact ⟨rfl, rfl, fun j hj => absurd hj (Nat.not_lt_zero j)⟩
  · rw [u2_at (by omega), u2_at (by omega), u2_ne e7_6]
    exact h3 i (by omega)
theorem prst_l {p : Sg} {c : Nat} (hc : 97 ≤ c ∧ c ≤ 122) (hL : p.2.1 p.1 < 12) : prst p c = (p.1, va_up p.2.1 p.1 (p.2.1 p.1 + 1), p.2.2.1, u2 p.2.2.2 p.1 (p.2.1 p.1) c) := by
  unfold prst
  rw [if_neg (by omega), if_neg (by omega), if_pos ⟨hc, hL⟩]
theorem mrd.letter {κ : Kz} {R : Rz} {A : Nat → Nat} (hm : LM κ R A) {I : Iz} {p : Sg} {c : Nat} (h : mr2 I A p) (hL : p.2.1 p.1 < 12) (h12 : ∀ i, i < p.1 → p.2.1 i ≤ 12) (hc : 97 ≤ c ∧ c ≤ 122) : mrd (ltI I A p.1 (p.2.1 p.1) c) A 1 (prst p c) := by
  have e0_4 : A 130 ≠ A 134 := hm.ne 0 4 (by decide) (by decide) (by decide)
  have e0_6 : A 130 ≠ A 136 := hm.ne 0 6 (by decide) (by decide) (by decide)
  have e0_7 : A 130 ≠ A 137 := hm.ne 0 7 (by decide) (by decide) (by decide)
  have e0_8 : A 130 ≠ A 138 := hm.ne 0 8 (by decide) (by decide) (by decide)
  have e4_0 : A 134 ≠ A 130 := hm.ne 4 0 (by decide) (by decide) (by decide)
  have e4_6 : A 134 ≠ A 136 := hm.ne 4 6 (by decide) (by decide) (by decide)
  have e4_7 : A 134 ≠ A 137 := hm.ne 4 7 (by decide) (by decide) (by decide)
  have e4_8 : A 134 ≠ A 138 := hm.ne 4 8 (by decide) (by decide) (by decide)
  have e6_0 : A 136 ≠ A 130 := hm.ne 6 0 (by decide) (by decide) (by decide)
  have e6_4 : A 136 ≠ A 134 := hm.ne 6 4 (by decide) (by decide) (by decide)
  have e6_7 : A 136 ≠ A 137 := hm.ne 6 7 (by decide) (by decide) (by decide)
  have e6_8 : A 136 ≠ A 138 := hm.ne 6 8 (by decide) (by decide) (by decide)
  have e7_0 : A 137 ≠ A 130 := hm.ne 7 0 (by decide) (by decide) (by decide)
  have e7_4 : A 137 ≠ A 134 := hm.ne 7 4 (by decide) (by decide) (by decide)
  have e7_6 : A 137 ≠ A 136 := hm.ne 7 6 (by decide) (by decide) (by decide)
  have e7_8 : A 137 ≠ A 138 := hm.ne 7 8 (by decide) (by decide) (by decide)
  have e8_0 : A 138 ≠ A 130 := hm.ne 8 0 (by decide) (by decide) (by decide)
  have e8_4 : A 138 ≠ A 134 := hm.ne 8 4 (by decide) (by decide) (by decide)
  have e8_6 : A 138 ≠ A 136 := hm.ne 8 6 (by decide) (by decide) (by decide)
  have e8_7 : A 138 ≠ A 137 := hm.ne 8 7 (by decide) (by decide) (by decide)
  obtain ⟨h2, h3⟩ := h
  rw [prst_l hc hL]
  unfold ltI
  refine ⟨u2_eq, by rw [u2_ne e4_0, u2_ne e4_6, u2_ne e4_8]; exact h2, fun i hi => ?_⟩
  have hq := h3 i (by dsimp only at hi; omega)
  unfold msl at hq ⊢
  dsimp only at hi ⊢
  rw [u2_ne e6_0, u2_ne e7_0, u2_ne e8_0, u2_ne e7_6, u2_ne e8_6, u2_ne e7_8]
  by_cases e : i = p.1
  · subst e
    rw [u2_eq, vup_s]
    refine ⟨rfl, hq.2.1, fun j hj => ?_⟩
    by_cases e2 : j = p.2.1 p.1
    · subst e2
      rw [u2_eq, u2_eq]
    · rw [u2_at (by omega), u2_at e2]
      exact hq.2.2 j (by omega)
  · rw [u2_at (by omega), vup_n e, u2_ne e6_8, u2_ne e]
    refine ⟨hq.1, hq.2.1, fun j hj => ?_⟩
    have q12 := h12 i (by omega)
    rw [u2_at (by omega)]
    exact hq.2.2 j hj
theorem mrd.digit {κ : Kz} {R : Rz} {A : Nat → Nat} (hm : LM κ R A) {I : Iz} {p : Sg} {c : Nat} (h : mr2 I A p) (hc : 49 ≤ c ∧ c ≤ 57) : mrd (u2 (u2 I (A 137) (104 + p.1) (nI (c - 48))) (A 130) 14 (nI 3)) A 3 (prst p c) := by
  have e0_4 : A 130 ≠ A 134 := hm.ne 0 4 (by decide) (by decide) (by decide)
  have e0_6 : A 130 ≠ A 136 := hm.ne 0 6 (by decide) (by decide) (by decide)
  have e0_7 : A 130 ≠ A 137 := hm.ne 0 7 (by decide) (by decide) (by decide)
  have e0_8 : A 130 ≠ A 138 := hm.ne 0 8 (by decide) (by decide) (by decide)
  have e4_0 : A 134 ≠ A 130 := hm.ne 4 0 (by decide) (by decide) (by decide)
  have e4_6 : A 134 ≠ A 136 := hm.ne 4 6 (by decide) (by decide) (by decide)
  have e4_7 : A 134 ≠ A 137 := hm.ne 4 7 (by decide) (by decide) (by decide)
  have e4_8 : A 134 ≠ A 138 := hm.ne 4 8 (by decide) (by decide) (by decide)
  have e6_0 : A 136 ≠ A 130 := hm.ne 6 0 (by decide) (by decide) (by decide)
  have e6_4 : A 136 ≠ A 134 := hm.ne 6 4 (by decide) (by decide) (by decide)
  have e6_7 : A 136 ≠ A 137 := hm.ne 6 7 (by decide) (by decide) (by decide)
  have e6_8 : A 136 ≠ A 138 := hm.ne 6 8 (by decide) (by decide) (by decide)
  have e7_0 : A 137 ≠ A 130 := hm.ne 7 0 (by decide) (by decide) (by decide)
  have e7_4 : A 137 ≠ A 134 := hm.ne 7 4 (by decide) (by decide) (by decide)
  have e7_6 : A 137 ≠ A 136 := hm.ne 7 6 (by decide) (by decide) (by decide)
  have e7_8 : A 137 ≠ A 138 := hm.ne 7 8 (by decide) (by decide) (by decide)
  have e8_0 : A 138 ≠ A 130 := hm.ne 8 0 (by decide) (by decide) (by decide)
  have e8_4 : A 138 ≠ A 134 := hm.ne 8 4 (by decide) (by decide) (by decide)
  have e8_6 : A 138 ≠ A 136 := hm.ne 8 6 (by decide) (by decide) (by decide)
  have e8_7 : A 138 ≠ A 137 := hm.ne 8 7 (by decide) (by decide) (by decide)
  obtain ⟨h2, h3⟩ := h
  rw [show prst p c = (p.1, p.2.1, va_up p.2.2.1 p.1 (c - 48), p.2.2.2) by unfold prst; rw [if_neg (by omega), if_pos hc]]
  refine ⟨u2_eq, by rw [u2_ne e4_0, u2_ne e4_7]; exact h2, fun i hi => ?_⟩
  have hq := h3 i (by dsimp only at hi; omega)
  unfold msl at hq ⊢
  dsimp only at hi ⊢
  rw [u2_ne e6_0, u2_ne e7_0, u2_ne e8_0, u2_ne e6_7, u2_ne e8_7]
  by_cases e : i = p.1
  · subst e
    rw [u2_eq, vup_s]
    exact ⟨hq.1, rfl, hq.2.2⟩
  · rw [u2_at (by omega), vup_n e]
    exact hq
theorem mrd.space {κ : Kz} {R : Rz} {A : Nat → Nat} (hm : LM κ R A) {I : Iz} {p : Sg} (h : mr2 I A p) : mrd (u2 (u2 I (A 134) 13 (nI (p.1 + 1))) (A 130) 14 (nI 0)) A 0 (prst p 32) := by
  have e0_4 : A 130 ≠ A 134 := hm.ne 0 4 (by decide) (by decide) (by decide)
  have e0_6 : A 130 ≠ A 136 := hm.ne 0 6 (by decide) (by decide) (by decide)
  have e0_7 : A 130 ≠ A 137 := hm.ne 0 7 (by decide) (by decide) (by decide)
  have e0_8 : A 130 ≠ A 138 := hm.ne 0 8 (by decide) (by decide) (by decide)
  have e4_0 : A 134 ≠ A 130 := hm.ne 4 0 (by decide) (by decide) (by decide)
  have e4_6 : A 134 ≠ A 136 := hm.ne 4 6 (by decide) (by decide) (by decide)
  have e4_7 : A 134 ≠ A 137 := hm.ne 4 7 (by decide) (by decide) (by decide)
  have e4_8 : A 134 ≠ A 138 := hm.ne 4 8 (by decide) (by decide) (by decide)
  have e6_0 : A 136 ≠ A 130 := hm.ne 6 0 (by decide) (by decide) (by decide)
  have e6_4 : A 136 ≠ A 134 := hm.ne 6 4 (by decide) (by decide) (by decide)
  have e6_7 : A 136 ≠ A 137 := hm.ne 6 7 (by decide) (by decide) (by decide)
  have e6_8 : A 136 ≠ A 138 := hm.ne 6 8 (by decide) (by decide) (by decide)
  have e7_0 : A 137 ≠ A 130 := hm.ne 7 0 (by decide) (by decide) (by decide)
  have e7_4 : A 137 ≠ A 134 := hm.ne 7 4 (by decide) (by decide) (by decide)
  have e7_6 : A 137 ≠ A 136 := hm.ne 7 6 (by decide) (by decide) (by decide)
  have e7_8 : A 137 ≠ A 138 := hm.ne 7 8 (by decide) (by decide) (by decide)
  have e8_0 : A 138 ≠ A 130 := hm.ne 8 0 (by decide) (by decide) (by decide)
  have e8_4 : A 138 ≠ A 134 := hm.ne 8 4 (by decide) (by decide) (by decide)
  have e8_6 : A 138 ≠ A 136 := hm.ne 8 6 (by decide) (by decide) (by decide)
  have e8_7 : A 138 ≠ A 137 := hm.ne 8 7 (by decide) (by decide) (by decide)
  obtain ⟨h2, h3⟩ := h
  rw [show prst p 32 = (p.1 + 1, va_up p.2.1 (p.1 + 1) 0, va_up p.2.2.1 (p.1 + 1) 0, p.2.2.2) by unfold prst; rw [if_pos rfl]]
  refine ⟨u2_eq, by rw [u2_ne e4_0, u2_eq], fun i hi => ?_⟩
  dsimp only at hi
  have hq := h3 i (by omega)
  unfold msl at hq ⊢
  dsimp only
  rw [u2_ne e6_0, u2_ne e7_0, u2_ne e8_0, u2_ne e6_4, u2_ne e8_4, u2_ne e7_4, vup_n (by omega), vup_n (by omega)]
  exact hq
theorem prst_o {p : Sg} {c : Nat} (hc : c = 91 ∨ c = 93) : prst p c = p := by
  unfold prst
  rw [if_neg (by omega), if_neg (by omega), if_neg (by omega)]
theorem within_N3 {a x b : Nat} (ha : a < 2147483648) (hx : x < 2147483648) (hb : b < 2147483648) : bz (nI a ≤ nI x ∧ nI x ≤ nI b) = bz (a ≤ x ∧ x ≤ b) := by
  have h1 := nI_leI ha hx
  have h2 := nI_leI hx hb
  by_cases q : a ≤ x ∧ x ≤ b
  · rw [bz_t q, bz_t ⟨h1.mpr q.1, h2.mpr q.2⟩]
  · rw [bz_f q, bz_f (fun r => q ⟨h1.mp r.1, h2.mp r.2⟩)]
set_option maxHeartbeats 4000000 in
set_option maxRecDepth 100000 in
theorem cX8_takesLetter_ok (l : Launch) (g : Gz) (κ : Kz) (I : Iz) (R : Rz) (J : Jz) (A : Nat → Nat) (hm : LM κ R A) (k L c : Nat) (hk7 : k ≤ 7) (hL : L ≤ 12) (hc : c ≤ 126) (h4 : I (A 134) 13 = nI k) (h6 : I (A 136) (104 + k) = nI L) : Ct l mX8_takesLetter 0 0 g [.ref (A 130), .int (nI c)] κ I R J (Si κ R J (fun r I1 => r = bz ((97 ≤ c ∧ c ≤ 122) ∧ L < 12) ∧ I1 = if ((97 ≤ c ∧ c ≤ 122) ∧ L < 12) then ltI I A k L c else I)) := by
  refine ct_of (by decide) (Nat.le_of_ble_eq_true rfl) ?_
  intro z hz hr hrc hrs
  have hz : Am z cX8_takesLetter RX8 3 1 := hz
  have hr : Rt z yX8_takesLetter (some .boolean) 0 0 _ := hr
  show V z 3 0 0 0 [(0, .ref (A 130)), (1, .int (nI c))] [] κ I R J
  have hk := hm.k
  have ho := hm.o
  have hR4 := hm.r4
  have hK4 := hm.k4
  have hN4 := hm.n4
  have hO4 := hm.o4
  have hR6 := hm.r6
  have hK6 := hm.k6
  have hN6 := hm.n6
  have hO6 := hm.o6
  have hR8 := hm.r8
  have hK8 := hm.k8
  have hN8 := hm.n8
  have hO8 := hm.o8
  refine v_bi (v := nI 104) hz dX8_takesLetter_0 (by decide) ?_
  refine v_aload_n hz dX8_takesLetter_2 rfl ?_
  refine v_getR hz fX8_13 (by assumption) (by assumption) dX8_takesLetter_3 ?_
  refine v_bi (v := nI 13) hz dX8_takesLetter_6 (by decide) ?_
  refine v_ialdN hz (by assumption) (by assumption) (by omega) (by decide) dX8_takesLetter_8 ?_
  refine v_top h4 ?_
  first | with_reducible refine v_iaddN hz dX8_takesLetter_9 ?_ | refine v_iadd hz dX8_takesLetter_9 ?_
  refine v_istore_n hz dX8_takesLetter_10 (by decide) rfl ?_
  refine v_iload_n hz dX8_takesLetter_11 rfl ?_
  refine v_bi (v := nI 97) hz dX8_takesLetter_12 (by decide) ?_
  refine v_bi (v := nI 122) hz dX8_takesLetter_14 (by decide) ?_
  refine v_callSi hz lX8_75 (cX8_within_ok _ _ _ _ _ _ _ _ _) rfl rfl (Nat.le_of_ble_eq_true rfl) (by decide) ⟨Nat.zero_le _, Nat.zero_le _⟩ dX8_takesLetter_16 (fun r I1 h16 => ?_)
  obtain ⟨rfl, rfl⟩ := h16
  refine v_top (within_N3 (by omega) (by omega) (by omega)) ?_
  first | with_reducible refine v_if_eqB hz 33 dX8_takesLetter_19 (by decide) (fun c19 => ?_) (fun c19 => ?_) | with_reducible refine v_if_eqN hz 33 (by omega) dX8_takesLetter_19 (by decide) (fun c19 => ?_) (fun c19 => ?_) | refine v_if_eq hz 33 dX8_takesLetter_19 (by decide) (fun c19 => ?_) (fun c19 => ?_)
  · have hno : ¬ ((97 ≤ c ∧ c ≤ 122) ∧ L < 12) := by omega
    refine v_ic (v := nI 0) hz dX8_takesLetter_33 (by decide) ?_
    exact v_zret hz hr dX8_takesLetter_34 (Or.inl rfl) ⟨(bz_f hno).symm, (if_neg hno).symm⟩
  · refine v_aload_n hz dX8_takesLetter_22 rfl ?_
    refine v_getR hz fX8_19 (by assumption) (by assumption) dX8_takesLetter_23 ?_
    refine v_iload_n hz dX8_takesLetter_26 rfl ?_
    refine v_ialdN hz (by assumption) (by assumption) (by omega) (by decide) dX8_takesLetter_27 ?_
    refine v_top h6 ?_
    refine v_bi (v := nI 12) hz dX8_takesLetter_28 (by decide) ?_
    first | with_reducible refine v_icmp_neN hz 35 (by omega) (by omega) dX8_takesLetter_30 (by decide) (fun c30 => ?_) (fun c30 => ?_) | refine v_icmp_ne hz 35 dX8_takesLetter_30 (by decide) (fun c30 => ?_) (fun c30 => ?_)
    · refine v_aload_n hz dX8_takesLetter_35 rfl ?_
      refine v_getR hz fX8_25 (by assumption) (by assumption) dX8_takesLetter_36 ?_
      refine v_bi (v := nI 12) hz dX8_takesLetter_39 (by decide) ?_
      refine v_iload_n hz dX8_takesLetter_41 rfl ?_
      first | with_reducible refine v_imulN hz dX8_takesLetter_42 ?_ | refine v_imul hz dX8_takesLetter_42 ?_
      refine v_aload_n hz dX8_takesLetter_43 rfl ?_
      refine v_getR hz fX8_19 (by assumption) (by assumption) dX8_takesLetter_44 ?_
      refine v_iload_n hz dX8_takesLetter_47 rfl ?_
      refine v_ialdN hz (by assumption) (by assumption) (by omega) (by decide) dX8_takesLetter_48 ?_
      refine v_top h6 ?_
      first | with_reducible refine v_iaddN hz dX8_takesLetter_49 ?_ | refine v_iadd hz dX8_takesLetter_49 ?_
      refine v_iload_n hz dX8_takesLetter_50 rfl ?_
      refine v_iastN hz (by assumption) (by assumption) (by omega) (by decide) dX8_takesLetter_51 ?_
      refine v_aload_n hz dX8_takesLetter_52 rfl ?_
      refine v_getR hz fX8_19 (by assumption) (by assumption) dX8_takesLetter_53 ?_
      refine v_iload_n hz dX8_takesLetter_56 rfl ?_
      refine v_dup2 hz dX8_takesLetter_57 rfl rfl ?_
      refine v_ialdN hz (by assumption) (by assumption) (by omega) (by decide) dX8_takesLetter_58 ?_
      refine v_top (y := nI L) (by rw [u2_ne (show A 136 ≠ A 138 from hm.ne 6 8 (by decide) (by decide) (by decide))]; exact h6) ?_
      refine v_ic (v := nI 1) hz dX8_takesLetter_59 (by decide) ?_
      first | with_reducible refine v_iaddN hz dX8_takesLetter_60 ?_ | refine v_iadd hz dX8_takesLetter_60 ?_
      refine v_iastN hz (by assumption) (by assumption) (by omega) (by decide) dX8_takesLetter_61 ?_
      refine v_aload_n hz dX8_takesLetter_62 rfl ?_
      refine v_ic (v := nI 1) hz dX8_takesLetter_63 (by decide) ?_
      refine v_putI hz fX8_82 (by assumption) dX8_takesLetter_64 ?_
      refine v_ic (v := nI 1) hz dX8_takesLetter_67 (by decide) ?_
      exact v_zret hz hr dX8_takesLetter_68 (Or.inr rfl) ⟨(bz_t (show ((97 ≤ c ∧ c ≤ 122) ∧ L < 12) by omega)).symm, (if_pos (show ((97 ≤ c ∧ c ≤ 122) ∧ L < 12) by omega)).symm⟩
    · have hno : ¬ ((97 ≤ c ∧ c ≤ 122) ∧ L < 12) := by omega
      refine v_ic (v := nI 0) hz dX8_takesLetter_33 (by decide) ?_
      exact v_zret hz hr dX8_takesLetter_34 (Or.inl rfl) ⟨(bz_f hno).symm, (if_neg hno).symm⟩
set_option maxHeartbeats 4000000 in
set_option maxRecDepth 100000 in
theorem cX8_begins_ok (l : Launch) (g : Gz) (κ : Kz) (I : Iz) (R : Rz) (J : Jz) (A : Nat → Nat) (hm : LM κ R A) (k c : Nat) (hk7 : k ≤ 7) (hc : c ≤ 126) (h4 : I (A 134) 13 = nI k) : Ct l mX8_begins 0 0 g [.ref (A 130), .int (nI c)] κ I R J (Si κ R J (fun r I1 => r = bz (c = 91 ∨ (97 ≤ c ∧ c ≤ 122)) ∧ I1 = if c = 91 then u2 (bgI I A k) (A 130) 14 (nI 2) else if (97 ≤ c ∧ c ≤ 122) then ltI (bgI I A k) A k 0 c else bgI I A k)) := by
  refine ct_of (by decide) (Nat.le_of_ble_eq_true rfl) ?_
  intro z hz hr hrc hrs
  have hz : Am z cX8_begins RX8 3 2 := hz
  have hr : Rt z yX8_begins (some .boolean) 0 0 _ := hr
  show V z 3 0 0 0 [(0, .ref (A 130)), (1, .int (nI c))] [] κ I R J
  have hk := hm.k
  have ho := hm.o
  have hR4 := hm.r4
  have hK4 := hm.k4
  have hN4 := hm.n4
  have hO4 := hm.o4
  have hR6 := hm.r6
  have hK6 := hm.k6
  have hN6 := hm.n6
  have hO6 := hm.o6
  have hR7 := hm.r7
  have hK7 := hm.k7
  have hN7 := hm.n7
  have hO7 := hm.o7
  refine v_bi (v := nI 104) hz dX8_begins_0 (by decide) ?_
  refine v_aload_n hz dX8_begins_2 rfl ?_
  refine v_getR hz fX8_13 (by assumption) (by assumption) dX8_begins_3 ?_
  refine v_bi (v := nI 13) hz dX8_begins_6 (by decide) ?_
  refine v_ialdN hz (by assumption) (by assumption) (by omega) (by decide) dX8_begins_8 ?_
  refine v_top h4 ?_
  first | with_reducible refine v_iaddN hz dX8_begins_9 ?_ | refine v_iadd hz dX8_begins_9 ?_
  refine v_istore_n hz dX8_begins_10 (by decide) rfl ?_
  refine v_aload_n hz dX8_begins_11 rfl ?_
  refine v_getR hz fX8_19 (by assumption) (by assumption) dX8_begins_12 ?_
  refine v_iload_n hz dX8_begins_15 rfl ?_
  refine v_ic (v := nI 0) hz dX8_begins_16 (by decide) ?_
  refine v_iastN hz (by assumption) (by assumption) (by omega) (by decide) dX8_begins_17 ?_
  refine v_aload_n hz dX8_begins_18 rfl ?_
  refine v_getR hz fX8_22 (by assumption) (by assumption) dX8_begins_19 ?_
  refine v_iload_n hz dX8_begins_22 rfl ?_
  refine v_ic (v := nI 0) hz dX8_begins_23 (by decide) ?_
  refine v_iastN hz (by assumption) (by assumption) (by omega) (by decide) dX8_begins_24 ?_
  refine v_mem (I' := bgI I A k) rfl ?_
  refine v_iload_n hz dX8_begins_25 rfl ?_
  refine v_bi (v := nI 91) hz dX8_begins_26 (by decide) ?_
  first | with_reducible refine v_icmp_neN hz 38 (by omega) (by omega) dX8_begins_28 (by decide) (fun c28 => ?_) (fun c28 => ?_) | refine v_icmp_ne hz 38 dX8_begins_28 (by decide) (fun c28 => ?_) (fun c28 => ?_)
  · refine v_aload_n hz dX8_begins_38 rfl ?_
    refine v_iload_n hz dX8_begins_39 rfl ?_
    refine v_callVi hz lX8_85 (cX8_takesLetter_ok _ _ _ _ _ _ A hm k 0 c hk7 (by omega) hc (by unfold bgI; rw [u2_ne (show A 134 ≠ A 137 from hm.ne 4 7 (by decide) (by decide) (by decide)), u2_ne (show A 134 ≠ A 136 from hm.ne 4 6 (by decide) (by decide) (by decide))]; exact h4) (by unfold bgI; rw [u2_ne (show A 136 ≠ A 137 from hm.ne 6 7 (by decide) (by decide) (by decide)), u2_eq])) (by assumption) rfl rfl (Nat.le_of_ble_eq_true rfl) (by decide) ⟨Nat.zero_le _, Nat.zero_le _⟩ dX8_begins_40 (fun r I1 h40 => ?_)
    obtain ⟨rfl, rfl⟩ := h40
    exact v_zret hz hr dX8_begins_43 (by first | exact Or.inl rfl | exact Or.inr rfl | exact bz_01) ⟨by congr 1; exact propext ⟨fun q => Or.inr q.1, fun q => ⟨by omega, by decide⟩⟩, by rw [if_neg (show ¬ c = 91 by omega)]; by_cases q : (97 ≤ c ∧ c ≤ 122); rw [if_pos ⟨q, by decide⟩, if_pos q]; rw [if_neg (fun q2 => q q2.1), if_neg q]⟩
  · refine v_aload_n hz dX8_begins_31 rfl ?_
    refine v_ic (v := nI 2) hz dX8_begins_32 (by decide) ?_
    refine v_putI hz fX8_82 (by assumption) dX8_begins_33 ?_
    refine v_ic (v := nI 1) hz dX8_begins_36 (by decide) ?_
    exact v_zret hz hr dX8_begins_37 (Or.inr rfl) ⟨(bz_t (Or.inl (by omega))).symm, (if_pos (by omega)).symm⟩
set_option maxHeartbeats 4000000 in
set_option maxRecDepth 100000 in
theorem cX8_takes_ok (l : Launch) (g : Gz) (κ : Kz) (I : Iz) (R : Rz) (J : Jz) (A : Nat → Nat) (hm : LM κ R A) (q : Nat × Nat × Nat) (P : Sg) (n c : Nat) (hP : PIv n q P) (hc : c ≤ 126) (hrd : mrd I A q.1 P) : Ct l mX8_takes 0 0 g [.ref (A 130), .int (nI c)] κ I R J (Si κ R J (fun r I1 => r = bz ((ast q c).isSome = true) ∧ RF A I I1 ∧ ∀ q', ast q c = some q' → mrd I1 A q'.1 (prst P c))) := by
  refine ct_of (by decide) (Nat.le_of_ble_eq_true rfl) ?_
  intro z hz hr hrc hrs
  have hz : Am z cX8_takes RX8 2 3 := hz
  have hr : Rt z yX8_takes (some .boolean) 0 0 _ := hr
  show V z 2 0 0 0 [(0, .ref (A 130)), (1, .int (nI c))] [] κ I R J
  have hk := hm.k
  have ho := hm.o
  have hR4 := hm.r4
  have hK4 := hm.k4
  have hN4 := hm.n4
  have hO4 := hm.o4
  have hR7 := hm.r7
  have hK7 := hm.k7
  have hN7 := hm.n7
  have hO7 := hm.o7
  obtain ⟨a1, a2, a3, a4, a5, a6, a7, a8, a9⟩ := id hP
  have h12 : ∀ i, i < P.1 → P.2.1 i ≤ 12 := fun i hi => (a8 i hi).1
  have e13 : I (A 134) 13 = nI P.1 := hrd.2.1
  refine v_aload_n hz dX8_takes_0 rfl ?_
  refine v_getI hz fX8_82 (by assumption) dX8_takes_1 ?_
  refine v_top hrd.1 ?_
  refine v_tsw hz 0 3 [36, 92, 42, 75] 92 dX8_takes_4 ⟨rfl, rfl⟩ (by decide) (by decide) (by decide) (fun j4 hj1_4 hj2_4 c4 => ?_) (fun c4 => ?_)
  · rcases (show j4 = 0 ∨ j4 = 1 ∨ j4 = 2 ∨ j4 = 3 by omega) with rfl | rfl | rfl | rfl
    · refine v_pc (pc' := 36) rfl ?_
      have ep : q.1 = 0 := (nI_eq (by omega) (by omega)).mp c4
      have z4 := a4 (Or.inl ep)
      have hr0 : mrd I A 0 P := by rw [← ep]; exact hrd
      have hb2 := mrd.begin hm hr0 z4.1 z4.2
      refine v_aload_n hz dX8_takes_36 rfl ?_
      refine v_iload_n hz dX8_takes_37 rfl ?_
      refine v_callVi hz lX8_89 (cX8_begins_ok _ _ _ _ _ _ A hm P.1 c (by omega) hc e13) (by assumption) rfl rfl (Nat.le_of_ble_eq_true rfl) (by decide) ⟨Nat.zero_le _, Nat.zero_le _⟩ dX8_takes_38 (fun r I1 h38 => ?_)
      obtain ⟨rfl, rfl⟩ := h38
      by_cases x1 : c = 91
      · have ea : ast q c = some (2, q.2.1, 0) := by unfold ast; rw [if_pos ep, if_pos x1]
        rw [if_pos x1]
        exact v_zret hz hr dX8_takes_41 bz_01 ⟨by rw [ea, bz_t (Or.inl x1)]; exact (bz_t rfl).symm, (bgI.rf hm RF.rf).put hm _ (Or.inl ⟨rfl, rfl⟩), fun q' hq' => by rw [ea] at hq'; cases hq'; rw [prst_o (Or.inl x1)]; exact mrd.stage hm hb2⟩
      · rw [if_neg x1]
        by_cases x2 : 97 ≤ c ∧ c ≤ 122
        · have ea : ast q c = some (1, q.2.1, 1) := by unfold ast; rw [if_pos ep, if_neg x1, if_pos x2]
          rw [if_pos x2]
          exact v_zret hz hr dX8_takes_41 bz_01 ⟨by rw [ea, bz_t (Or.inr x2)]; exact (bz_t rfl).symm, ltI.rf hm (bgI.rf hm RF.rf), fun q' hq' => by rw [ea] at hq'; cases hq'; have := mrd.letter hm hb2 (by omega) h12 x2; rw [z4.1] at this; exact this⟩
        · have ea : ast q c = none := by unfold ast; rw [if_pos ep, if_neg x1, if_neg x2]
          rw [if_neg x2]
          exact v_zret hz hr dX8_takes_41 bz_01 ⟨by rw [ea, bz_f (by omega)]; exact (bz_f (by decide)).symm, bgI.rf hm RF.rf, fun q' hq' => by rw [ea] at hq'; cases hq'⟩
    · refine v_pc (pc' := 92) rfl ?_
      have ep : q.1 = 1 ∨ q.1 = 4 := Or.inl ((nI_eq (by omega) (by omega)).mp c4)
      have hb2 := hrd.to2 (by omega)
      refine v_iload_n hz dX8_takes_92 rfl ?_
      refine v_bi (v := nI 32) hz dX8_takes_93 (by decide) ?_
      first | with_reducible refine v_icmp_neN hz 128 (by omega) (by omega) dX8_takes_95 (by decide) (fun c95 => ?_) (fun c95 => ?_) | refine v_icmp_ne hz 128 dX8_takes_95 (by decide) (fun c95 => ?_) (fun c95 => ?_)
      · have xs : ¬ (c = 32 ∧ q.2.1 < 7) := by omega
        refine v_aload_n hz dX8_takes_128 rfl ?_
        refine v_getI hz fX8_82 (by assumption) dX8_takes_129 ?_
        refine v_top hrd.1 ?_
        refine v_ic (v := nI 1) hz dX8_takes_132 (by decide) ?_
        first | with_reducible refine v_icmp_neN hz 148 (by omega) (by omega) dX8_takes_133 (by decide) (fun c133 => ?_) (fun c133 => ?_) | refine v_icmp_ne hz 148 dX8_takes_133 (by decide) (fun c133 => ?_) (fun c133 => ?_)
        · have ea : ast q c = none := by
            unfold ast
            rw [if_neg (by omega), if_neg (by omega), if_neg (by omega), if_neg (by omega), if_neg xs]
          refine v_ic (v := nI 0) hz dX8_takes_148 (by decide) ?_
          exact v_zret hz hr dX8_takes_149 (Or.inl rfl) ⟨by rw [ea]; exact (bz_f (by decide)).symm, RF.rf, fun q' hq' => by rw [ea] at hq'; cases hq'⟩
        · have e1 : q.1 = 1 := by omega
          have z5 := a5 e1
          refine v_aload_n hz dX8_takes_136 rfl ?_
          refine v_iload_n hz dX8_takes_137 rfl ?_
          refine v_callVi hz lX8_85 (cX8_takesLetter_ok _ _ _ _ _ _ A hm P.1 (P.2.1 P.1) c (by omega) (by omega) hc e13 (hb2.2 P.1 (Nat.le_refl _)).1) (by assumption) rfl rfl (Nat.le_of_ble_eq_true rfl) (by decide) ⟨Nat.zero_le _, Nat.zero_le _⟩ dX8_takes_138 (fun r I1 h138 => ?_)
          obtain ⟨rfl, rfl⟩ := h138
          first | with_reducible refine v_if_eqB hz 148 dX8_takes_141 (by decide) (fun c141 => ?_) (fun c141 => ?_) | with_reducible refine v_if_eqN hz 148 (by omega) dX8_takes_141 (by decide) (fun c141 => ?_) (fun c141 => ?_) | refine v_if_eq hz 148 dX8_takes_141 (by decide) (fun c141 => ?_) (fun c141 => ?_)
          · refine v_ic (v := nI 0) hz dX8_takes_148 (by decide) ?_
            first
            | (rw [if_pos c141]
               have ea : ast q c = some (1, q.2.1, q.2.2 + 1) := by unfold ast; rw [if_neg (by omega), if_pos e1, if_pos c141.1, if_pos (by omega)]
               exact v_zret hz hr dX8_takes_149 (Or.inr rfl) ⟨by rw [ea]; exact (bz_t rfl).symm, ltI.rf hm RF.rf, fun q' hq' => by rw [ea] at hq'; cases hq'; exact mrd.letter hm hb2 c141.2 h12 c141.1⟩)
            | (rw [if_neg c141]
               have ea : ast q c = none := by
                 unfold ast
                 rw [if_neg (by omega), if_pos e1]
                 by_cases x : 97 ≤ c ∧ c ≤ 122
                 · rw [if_pos x, if_neg (by omega)]
                 · rw [if_neg x, if_neg xs]
               exact v_zret hz hr dX8_takes_149 (Or.inl rfl) ⟨by rw [ea]; exact (bz_f (by decide)).symm, RF.rf, fun q' hq' => by rw [ea] at hq'; cases hq'⟩)
          · refine v_ic (v := nI 1) hz dX8_takes_144 (by decide) ?_
            refine v_goto hz 149 dX8_takes_145 (by decide) ?_
            first
            | (rw [if_pos c141]
               have ea : ast q c = some (1, q.2.1, q.2.2 + 1) := by unfold ast; rw [if_neg (by omega), if_pos e1, if_pos c141.1, if_pos (by omega)]
               exact v_zret hz hr dX8_takes_149 (Or.inr rfl) ⟨by rw [ea]; exact (bz_t rfl).symm, ltI.rf hm RF.rf, fun q' hq' => by rw [ea] at hq'; cases hq'; exact mrd.letter hm hb2 c141.2 h12 c141.1⟩)
            | (rw [if_neg c141]
               have ea : ast q c = none := by
                 unfold ast
                 rw [if_neg (by omega), if_pos e1]
                 by_cases x : 97 ≤ c ∧ c ≤ 122
                 · rw [if_pos x, if_neg (by omega)]
                 · rw [if_neg x, if_neg xs]
               exact v_zret hz hr dX8_takes_149 (Or.inl rfl) ⟨by rw [ea]; exact (bz_f (by decide)).symm, RF.rf, fun q' hq' => by rw [ea] at hq'; cases hq'⟩)
      · refine v_aload_n hz dX8_takes_98 rfl ?_
        refine v_getR hz fX8_13 (by assumption) (by assumption) dX8_takes_99 ?_
        refine v_bi (v := nI 13) hz dX8_takes_102 (by decide) ?_
        refine v_ialdN hz (by assumption) (by assumption) (by omega) (by decide) dX8_takes_104 ?_
        refine v_top e13 ?_
        refine v_bi (v := nI 7) hz dX8_takes_105 (by decide) ?_
        first | with_reducible refine v_icmp_geN hz 128 (by omega) (by omega) dX8_takes_107 (by decide) (fun c107 => ?_) (fun c107 => ?_) | refine v_icmp_ge hz 128 dX8_takes_107 (by decide) (fun c107 => ?_) (fun c107 => ?_)
        · have xs : ¬ (c = 32 ∧ q.2.1 < 7) := by omega
          refine v_aload_n hz dX8_takes_128 rfl ?_
          refine v_getI hz fX8_82 (by assumption) dX8_takes_129 ?_
          refine v_top hrd.1 ?_
          refine v_ic (v := nI 1) hz dX8_takes_132 (by decide) ?_
          first | with_reducible refine v_icmp_neN hz 148 (by omega) (by omega) dX8_takes_133 (by decide) (fun c133 => ?_) (fun c133 => ?_) | refine v_icmp_ne hz 148 dX8_takes_133 (by decide) (fun c133 => ?_) (fun c133 => ?_)
          · have ea : ast q c = none := by
              unfold ast
              rw [if_neg (by omega), if_neg (by omega), if_neg (by omega), if_neg (by omega), if_neg xs]
            refine v_ic (v := nI 0) hz dX8_takes_148 (by decide) ?_
            exact v_zret hz hr dX8_takes_149 (Or.inl rfl) ⟨by rw [ea]; exact (bz_f (by decide)).symm, RF.rf, fun q' hq' => by rw [ea] at hq'; cases hq'⟩
          · have e1 : q.1 = 1 := by omega
            have z5 := a5 e1
            refine v_aload_n hz dX8_takes_136 rfl ?_
            refine v_iload_n hz dX8_takes_137 rfl ?_
            refine v_callVi hz lX8_85 (cX8_takesLetter_ok _ _ _ _ _ _ A hm P.1 (P.2.1 P.1) c (by omega) (by omega) hc e13 (hb2.2 P.1 (Nat.le_refl _)).1) (by assumption) rfl rfl (Nat.le_of_ble_eq_true rfl) (by decide) ⟨Nat.zero_le _, Nat.zero_le _⟩ dX8_takes_138 (fun r I1 h138 => ?_)
            obtain ⟨rfl, rfl⟩ := h138
            first | with_reducible refine v_if_eqB hz 148 dX8_takes_141 (by decide) (fun c141 => ?_) (fun c141 => ?_) | with_reducible refine v_if_eqN hz 148 (by omega) dX8_takes_141 (by decide) (fun c141 => ?_) (fun c141 => ?_) | refine v_if_eq hz 148 dX8_takes_141 (by decide) (fun c141 => ?_) (fun c141 => ?_)
            · refine v_ic (v := nI 0) hz dX8_takes_148 (by decide) ?_
              first
              | (rw [if_pos c141]
                 have ea : ast q c = some (1, q.2.1, q.2.2 + 1) := by unfold ast; rw [if_neg (by omega), if_pos e1, if_pos c141.1, if_pos (by omega)]
                 exact v_zret hz hr dX8_takes_149 (Or.inr rfl) ⟨by rw [ea]; exact (bz_t rfl).symm, ltI.rf hm RF.rf, fun q' hq' => by rw [ea] at hq'; cases hq'; exact mrd.letter hm hb2 c141.2 h12 c141.1⟩)
              | (rw [if_neg c141]
                 have ea : ast q c = none := by
                   unfold ast
                   rw [if_neg (by omega), if_pos e1]
                   by_cases x : 97 ≤ c ∧ c ≤ 122
                   · rw [if_pos x, if_neg (by omega)]
                   · rw [if_neg x, if_neg xs]
                 exact v_zret hz hr dX8_takes_149 (Or.inl rfl) ⟨by rw [ea]; exact (bz_f (by decide)).symm, RF.rf, fun q' hq' => by rw [ea] at hq'; cases hq'⟩)
            · refine v_ic (v := nI 1) hz dX8_takes_144 (by decide) ?_
              refine v_goto hz 149 dX8_takes_145 (by decide) ?_
              first
              | (rw [if_pos c141]
                 have ea : ast q c = some (1, q.2.1, q.2.2 + 1) := by unfold ast; rw [if_neg (by omega), if_pos e1, if_pos c141.1, if_pos (by omega)]
                 exact v_zret hz hr dX8_takes_149 (Or.inr rfl) ⟨by rw [ea]; exact (bz_t rfl).symm, ltI.rf hm RF.rf, fun q' hq' => by rw [ea] at hq'; cases hq'; exact mrd.letter hm hb2 c141.2 h12 c141.1⟩)
              | (rw [if_neg c141]
                 have ea : ast q c = none := by
                   unfold ast
                   rw [if_neg (by omega), if_pos e1]
                   by_cases x : 97 ≤ c ∧ c ≤ 122
                   · rw [if_pos x, if_neg (by omega)]
                   · rw [if_neg x, if_neg xs]
                 exact v_zret hz hr dX8_takes_149 (Or.inl rfl) ⟨by rw [ea]; exact (bz_f (by decide)).symm, RF.rf, fun q' hq' => by rw [ea] at hq'; cases hq'⟩)
        · refine v_aload_n hz dX8_takes_110 rfl ?_
          refine v_getR hz fX8_13 (by assumption) (by assumption) dX8_takes_111 ?_
          refine v_bi (v := nI 13) hz dX8_takes_114 (by decide) ?_
          refine v_dup2 hz dX8_takes_116 rfl rfl ?_
          refine v_ialdN hz (by assumption) (by assumption) (by omega) (by decide) dX8_takes_117 ?_
          refine v_top e13 ?_
          refine v_ic (v := nI 1) hz dX8_takes_118 (by decide) ?_
          first | with_reducible refine v_iaddN hz dX8_takes_119 ?_ | refine v_iadd hz dX8_takes_119 ?_
          refine v_iastN hz (by assumption) (by assumption) (by omega) (by decide) dX8_takes_120 ?_
          refine v_aload_n hz dX8_takes_121 rfl ?_
          refine v_ic (v := nI 0) hz dX8_takes_122 (by decide) ?_
          refine v_putI hz fX8_82 (by assumption) dX8_takes_123 ?_
          refine v_ic (v := nI 1) hz dX8_takes_126 (by decide) ?_
          have ea : ast q c = some (0, q.2.1 + 1, 0) := by
            unfold ast
            rcases ep with ep | ep
            · rw [if_neg (by omega), if_pos ep, if_neg (by omega), if_pos (by omega)]
            · rw [if_neg (by omega), if_neg (by omega), if_neg (by omega), if_neg (by omega), if_pos (by omega)]
          exact v_zret hz hr dX8_takes_127 (Or.inr rfl) ⟨by rw [ea]; exact (bz_t rfl).symm, (RF.rf.put hm _ (Or.inr (Or.inl ⟨rfl, rfl⟩))).put hm _ (Or.inl ⟨rfl, rfl⟩), fun q' hq' => by rw [ea] at hq'; cases hq'; rw [show c = 32 by omega]; exact mrd.space hm hb2⟩
    · refine v_pc (pc' := 42) rfl ?_
      have ep : q.1 = 2 := (nI_eq (by omega) (by omega)).mp c4
      have hb2 := hrd.to2 (by omega)
      refine v_aload_n hz dX8_takes_42 rfl ?_
      refine v_getR hz fX8_22 (by assumption) (by assumption) dX8_takes_43 ?_
      refine v_bi (v := nI 104) hz dX8_takes_46 (by decide) ?_
      refine v_aload_n hz dX8_takes_48 rfl ?_
      refine v_getR hz fX8_13 (by assumption) (by assumption) dX8_takes_49 ?_
      refine v_bi (v := nI 13) hz dX8_takes_52 (by decide) ?_
      refine v_ialdN hz (by assumption) (by assumption) (by omega) (by decide) dX8_takes_54 ?_
      refine v_top e13 ?_
      first | with_reducible refine v_iaddN hz dX8_takes_55 ?_ | refine v_iadd hz dX8_takes_55 ?_
      refine v_iload_n hz dX8_takes_56 rfl ?_
      refine v_bi (v := nI 48) hz dX8_takes_57 (by decide) ?_
      first | with_reducible refine v_isubN hz (by omega) dX8_takes_59 ?_ | refine v_isub hz dX8_takes_59 ?_
      refine v_iastN hz (by assumption) (by assumption) (by omega) (by decide) dX8_takes_60 ?_
      refine v_aload_n hz dX8_takes_61 rfl ?_
      refine v_ic (v := nI 3) hz dX8_takes_62 (by decide) ?_
      refine v_putI hz fX8_82 (by assumption) dX8_takes_63 ?_
      refine v_iload_n hz dX8_takes_66 rfl ?_
      refine v_bi (v := nI 49) hz dX8_takes_67 (by decide) ?_
      refine v_bi (v := nI 57) hz dX8_takes_69 (by decide) ?_
      refine v_callSi hz lX8_75 (cX8_within_ok _ _ _ _ _ _ _ _ _) rfl rfl (Nat.le_of_ble_eq_true rfl) (by decide) ⟨Nat.zero_le _, Nat.zero_le _⟩ dX8_takes_71 (fun r I1 h71 => ?_)
      obtain ⟨rfl, rfl⟩ := h71
      refine v_top (within_N3 (by omega) (by omega) (by omega)) ?_
      by_cases x1 : 49 ≤ c ∧ c ≤ 57
      · have ea : ast q c = some (3, q.2.1, 0) := by unfold ast; rw [if_neg (by omega), if_neg (by omega), if_pos ep, if_pos x1]
        refine v_mem (I' := u2 (u2 I (A 137) (104 + P.1) (nI (c - 48))) (A 130) 14 (nI 3)) (by rw [pk_sub (by omega)]) ?_
        exact v_zret hz hr dX8_takes_74 bz_01 ⟨by rw [ea, bz_t x1]; exact (bz_t rfl).symm, (RF.rf.put hm _ (Or.inr (Or.inr (Or.inr (Or.inl ⟨rfl, by omega⟩))))).put hm _ (Or.inl ⟨rfl, rfl⟩), fun q' hq' => by rw [ea] at hq'; cases hq'; exact mrd.digit hm hb2 x1⟩
      · have ea : ast q c = none := by unfold ast; rw [if_neg (by omega), if_neg (by omega), if_pos ep, if_neg x1]
        exact v_zret hz hr dX8_takes_74 bz_01 ⟨by rw [ea, bz_f x1]; exact (bz_f (by decide)).symm, (RF.rf.put hm _ (Or.inr (Or.inr (Or.inr (Or.inl ⟨rfl, by omega⟩))))).put hm _ (Or.inl ⟨rfl, rfl⟩), fun q' hq' => by rw [ea] at hq'; cases hq'⟩
    · refine v_pc (pc' := 75) rfl ?_
      have ep : q.1 = 3 := (nI_eq (by omega) (by omega)).mp c4
      have hb2 := hrd.to2 (by omega)
      refine v_aload_n hz dX8_takes_75 rfl ?_
      refine v_ic (v := nI 4) hz dX8_takes_76 (by decide) ?_
      refine v_putI hz fX8_82 (by assumption) dX8_takes_77 ?_
      refine v_iload_n hz dX8_takes_80 rfl ?_
      refine v_bi (v := nI 93) hz dX8_takes_81 (by decide) ?_
      first | with_reducible refine v_icmp_neN hz 90 (by omega) (by omega) dX8_takes_83 (by decide) (fun c83 => ?_) (fun c83 => ?_) | refine v_icmp_ne hz 90 dX8_takes_83 (by decide) (fun c83 => ?_) (fun c83 => ?_)
      · refine v_ic (v := nI 0) hz dX8_takes_90 (by decide) ?_
        first
        | (have x1 : c = 93 := by omega
           have ea : ast q c = some (4, q.2.1, 0) := by unfold ast; rw [if_neg (by omega), if_neg (by omega), if_neg (by omega), if_pos ep, if_pos x1]
           exact v_zret hz hr dX8_takes_91 (Or.inr rfl) ⟨by rw [ea]; exact (bz_t rfl).symm, RF.rf.put hm _ (Or.inl ⟨rfl, rfl⟩), fun q' hq' => by rw [ea] at hq'; cases hq'; rw [prst_o (Or.inr x1)]; exact mrd.stage hm hb2⟩)
        | (have ea : ast q c = none := by unfold ast; rw [if_neg (by omega), if_neg (by omega), if_neg (by omega), if_pos ep, if_neg (by omega)]
           exact v_zret hz hr dX8_takes_91 (Or.inl rfl) ⟨by rw [ea]; exact (bz_f (by decide)).symm, RF.rf.put hm _ (Or.inl ⟨rfl, rfl⟩), fun q' hq' => by rw [ea] at hq'; cases hq'⟩)
      · refine v_ic (v := nI 1) hz dX8_takes_86 (by decide) ?_
        refine v_goto hz 91 dX8_takes_87 (by decide) ?_
        first
        | (have x1 : c = 93 := by omega
           have ea : ast q c = some (4, q.2.1, 0) := by unfold ast; rw [if_neg (by omega), if_neg (by omega), if_neg (by omega), if_pos ep, if_pos x1]
           exact v_zret hz hr dX8_takes_91 (Or.inr rfl) ⟨by rw [ea]; exact (bz_t rfl).symm, RF.rf.put hm _ (Or.inl ⟨rfl, rfl⟩), fun q' hq' => by rw [ea] at hq'; cases hq'; rw [prst_o (Or.inr x1)]; exact mrd.stage hm hb2⟩)
        | (have ea : ast q c = none := by unfold ast; rw [if_neg (by omega), if_neg (by omega), if_neg (by omega), if_pos ep, if_neg (by omega)]
           exact v_zret hz hr dX8_takes_91 (Or.inl rfl) ⟨by rw [ea]; exact (bz_f (by decide)).symm, RF.rf.put hm _ (Or.inl ⟨rfl, rfl⟩), fun q' hq' => by rw [ea] at hq'; cases hq'⟩)
  · have ep : q.1 = 1 ∨ q.1 = 4 := by
      by_cases x : q.1 = 4
      · exact Or.inr x
      · exact (c4 ⟨q.1, Nat.zero_le _, by omega, rfl⟩).elim
    have hb2 := hrd.to2 (by omega)
    refine v_iload_n hz dX8_takes_92 rfl ?_
    refine v_bi (v := nI 32) hz dX8_takes_93 (by decide) ?_
    first | with_reducible refine v_icmp_neN hz 128 (by omega) (by omega) dX8_takes_95 (by decide) (fun c95 => ?_) (fun c95 => ?_) | refine v_icmp_ne hz 128 dX8_takes_95 (by decide) (fun c95 => ?_) (fun c95 => ?_)
    · have xs : ¬ (c = 32 ∧ q.2.1 < 7) := by omega
      refine v_aload_n hz dX8_takes_128 rfl ?_
      refine v_getI hz fX8_82 (by assumption) dX8_takes_129 ?_
      refine v_top hrd.1 ?_
      refine v_ic (v := nI 1) hz dX8_takes_132 (by decide) ?_
      first | with_reducible refine v_icmp_neN hz 148 (by omega) (by omega) dX8_takes_133 (by decide) (fun c133 => ?_) (fun c133 => ?_) | refine v_icmp_ne hz 148 dX8_takes_133 (by decide) (fun c133 => ?_) (fun c133 => ?_)
      · have ea : ast q c = none := by
          unfold ast
          rw [if_neg (by omega), if_neg (by omega), if_neg (by omega), if_neg (by omega), if_neg xs]
        refine v_ic (v := nI 0) hz dX8_takes_148 (by decide) ?_
        exact v_zret hz hr dX8_takes_149 (Or.inl rfl) ⟨by rw [ea]; exact (bz_f (by decide)).symm, RF.rf, fun q' hq' => by rw [ea] at hq'; cases hq'⟩
      · have e1 : q.1 = 1 := by omega
        have z5 := a5 e1
        refine v_aload_n hz dX8_takes_136 rfl ?_
        refine v_iload_n hz dX8_takes_137 rfl ?_
        refine v_callVi hz lX8_85 (cX8_takesLetter_ok _ _ _ _ _ _ A hm P.1 (P.2.1 P.1) c (by omega) (by omega) hc e13 (hb2.2 P.1 (Nat.le_refl _)).1) (by assumption) rfl rfl (Nat.le_of_ble_eq_true rfl) (by decide) ⟨Nat.zero_le _, Nat.zero_le _⟩ dX8_takes_138 (fun r I1 h138 => ?_)
        obtain ⟨rfl, rfl⟩ := h138
        first | with_reducible refine v_if_eqB hz 148 dX8_takes_141 (by decide) (fun c141 => ?_) (fun c141 => ?_) | with_reducible refine v_if_eqN hz 148 (by omega) dX8_takes_141 (by decide) (fun c141 => ?_) (fun c141 => ?_) | refine v_if_eq hz 148 dX8_takes_141 (by decide) (fun c141 => ?_) (fun c141 => ?_)
        · refine v_ic (v := nI 0) hz dX8_takes_148 (by decide) ?_
          first
          | (rw [if_pos c141]
             have ea : ast q c = some (1, q.2.1, q.2.2 + 1) := by unfold ast; rw [if_neg (by omega), if_pos e1, if_pos c141.1, if_pos (by omega)]
             exact v_zret hz hr dX8_takes_149 (Or.inr rfl) ⟨by rw [ea]; exact (bz_t rfl).symm, ltI.rf hm RF.rf, fun q' hq' => by rw [ea] at hq'; cases hq'; exact mrd.letter hm hb2 c141.2 h12 c141.1⟩)
          | (rw [if_neg c141]
             have ea : ast q c = none := by
               unfold ast
               rw [if_neg (by omega), if_pos e1]
               by_cases x : 97 ≤ c ∧ c ≤ 122
               · rw [if_pos x, if_neg (by omega)]
               · rw [if_neg x, if_neg xs]
             exact v_zret hz hr dX8_takes_149 (Or.inl rfl) ⟨by rw [ea]; exact (bz_f (by decide)).symm, RF.rf, fun q' hq' => by rw [ea] at hq'; cases hq'⟩)
        · refine v_ic (v := nI 1) hz dX8_takes_144 (by decide) ?_
          refine v_goto hz 149 dX8_takes_145 (by decide) ?_
          first
          | (rw [if_pos c141]
             have ea : ast q c = some (1, q.2.1, q.2.2 + 1) := by unfold ast; rw [if_neg (by omega), if_pos e1, if_pos c141.1, if_pos (by omega)]
             exact v_zret hz hr dX8_takes_149 (Or.inr rfl) ⟨by rw [ea]; exact (bz_t rfl).symm, ltI.rf hm RF.rf, fun q' hq' => by rw [ea] at hq'; cases hq'; exact mrd.letter hm hb2 c141.2 h12 c141.1⟩)
          | (rw [if_neg c141]
             have ea : ast q c = none := by
               unfold ast
               rw [if_neg (by omega), if_pos e1]
               by_cases x : 97 ≤ c ∧ c ≤ 122
               · rw [if_pos x, if_neg (by omega)]
               · rw [if_neg x, if_neg xs]
             exact v_zret hz hr dX8_takes_149 (Or.inl rfl) ⟨by rw [ea]; exact (bz_f (by decide)).symm, RF.rf, fun q' hq' => by rw [ea] at hq'; cases hq'⟩)
    · refine v_aload_n hz dX8_takes_98 rfl ?_
      refine v_getR hz fX8_13 (by assumption) (by assumption) dX8_takes_99 ?_
      refine v_bi (v := nI 13) hz dX8_takes_102 (by decide) ?_
      refine v_ialdN hz (by assumption) (by assumption) (by omega) (by decide) dX8_takes_104 ?_
      refine v_top e13 ?_
      refine v_bi (v := nI 7) hz dX8_takes_105 (by decide) ?_
      first | with_reducible refine v_icmp_geN hz 128 (by omega) (by omega) dX8_takes_107 (by decide) (fun c107 => ?_) (fun c107 => ?_) | refine v_icmp_ge hz 128 dX8_takes_107 (by decide) (fun c107 => ?_) (fun c107 => ?_)
      · have xs : ¬ (c = 32 ∧ q.2.1 < 7) := by omega
        refine v_aload_n hz dX8_takes_128 rfl ?_
        refine v_getI hz fX8_82 (by assumption) dX8_takes_129 ?_
        refine v_top hrd.1 ?_
        refine v_ic (v := nI 1) hz dX8_takes_132 (by decide) ?_
        first | with_reducible refine v_icmp_neN hz 148 (by omega) (by omega) dX8_takes_133 (by decide) (fun c133 => ?_) (fun c133 => ?_) | refine v_icmp_ne hz 148 dX8_takes_133 (by decide) (fun c133 => ?_) (fun c133 => ?_)
        · have ea : ast q c = none := by
            unfold ast
            rw [if_neg (by omega), if_neg (by omega), if_neg (by omega), if_neg (by omega), if_neg xs]
          refine v_ic (v := nI 0) hz dX8_takes_148 (by decide) ?_
          exact v_zret hz hr dX8_takes_149 (Or.inl rfl) ⟨by rw [ea]; exact (bz_f (by decide)).symm, RF.rf, fun q' hq' => by rw [ea] at hq'; cases hq'⟩
        · have e1 : q.1 = 1 := by omega
          have z5 := a5 e1
          refine v_aload_n hz dX8_takes_136 rfl ?_
          refine v_iload_n hz dX8_takes_137 rfl ?_
          refine v_callVi hz lX8_85 (cX8_takesLetter_ok _ _ _ _ _ _ A hm P.1 (P.2.1 P.1) c (by omega) (by omega) hc e13 (hb2.2 P.1 (Nat.le_refl _)).1) (by assumption) rfl rfl (Nat.le_of_ble_eq_true rfl) (by decide) ⟨Nat.zero_le _, Nat.zero_le _⟩ dX8_takes_138 (fun r I1 h138 => ?_)
          obtain ⟨rfl, rfl⟩ := h138
          first | with_reducible refine v_if_eqB hz 148 dX8_takes_141 (by decide) (fun c141 => ?_) (fun c141 => ?_) | with_reducible refine v_if_eqN hz 148 (by omega) dX8_takes_141 (by decide) (fun c141 => ?_) (fun c141 => ?_) | refine v_if_eq hz 148 dX8_takes_141 (by decide) (fun c141 => ?_) (fun c141 => ?_)
          · refine v_ic (v := nI 0) hz dX8_takes_148 (by decide) ?_
            first
            | (rw [if_pos c141]
               have ea : ast q c = some (1, q.2.1, q.2.2 + 1) := by unfold ast; rw [if_neg (by omega), if_pos e1, if_pos c141.1, if_pos (by omega)]
               exact v_zret hz hr dX8_takes_149 (Or.inr rfl) ⟨by rw [ea]; exact (bz_t rfl).symm, ltI.rf hm RF.rf, fun q' hq' => by rw [ea] at hq'; cases hq'; exact mrd.letter hm hb2 c141.2 h12 c141.1⟩)
            | (rw [if_neg c141]
               have ea : ast q c = none := by
                 unfold ast
                 rw [if_neg (by omega), if_pos e1]
                 by_cases x : 97 ≤ c ∧ c ≤ 122
                 · rw [if_pos x, if_neg (by omega)]
                 · rw [if_neg x, if_neg xs]
               exact v_zret hz hr dX8_takes_149 (Or.inl rfl) ⟨by rw [ea]; exact (bz_f (by decide)).symm, RF.rf, fun q' hq' => by rw [ea] at hq'; cases hq'⟩)
          · refine v_ic (v := nI 1) hz dX8_takes_144 (by decide) ?_
            refine v_goto hz 149 dX8_takes_145 (by decide) ?_
            first
            | (rw [if_pos c141]
               have ea : ast q c = some (1, q.2.1, q.2.2 + 1) := by unfold ast; rw [if_neg (by omega), if_pos e1, if_pos c141.1, if_pos (by omega)]
               exact v_zret hz hr dX8_takes_149 (Or.inr rfl) ⟨by rw [ea]; exact (bz_t rfl).symm, ltI.rf hm RF.rf, fun q' hq' => by rw [ea] at hq'; cases hq'; exact mrd.letter hm hb2 c141.2 h12 c141.1⟩)
            | (rw [if_neg c141]
               have ea : ast q c = none := by
                 unfold ast
                 rw [if_neg (by omega), if_pos e1]
                 by_cases x : 97 ≤ c ∧ c ≤ 122
                 · rw [if_pos x, if_neg (by omega)]
                 · rw [if_neg x, if_neg xs]
               exact v_zret hz hr dX8_takes_149 (Or.inl rfl) ⟨by rw [ea]; exact (bz_f (by decide)).symm, RF.rf, fun q' hq' => by rw [ea] at hq'; cases hq'⟩)
      · refine v_aload_n hz dX8_takes_110 rfl ?_
        refine v_getR hz fX8_13 (by assumption) (by assumption) dX8_takes_111 ?_
        refine v_bi (v := nI 13) hz dX8_takes_114 (by decide) ?_
        refine v_dup2 hz dX8_takes_116 rfl rfl ?_
        refine v_ialdN hz (by assumption) (by assumption) (by omega) (by decide) dX8_takes_117 ?_
        refine v_top e13 ?_
        refine v_ic (v := nI 1) hz dX8_takes_118 (by decide) ?_
        first | with_reducible refine v_iaddN hz dX8_takes_119 ?_ | refine v_iadd hz dX8_takes_119 ?_
        refine v_iastN hz (by assumption) (by assumption) (by omega) (by decide) dX8_takes_120 ?_
        refine v_aload_n hz dX8_takes_121 rfl ?_
        refine v_ic (v := nI 0) hz dX8_takes_122 (by decide) ?_
        refine v_putI hz fX8_82 (by assumption) dX8_takes_123 ?_
        refine v_ic (v := nI 1) hz dX8_takes_126 (by decide) ?_
        have ea : ast q c = some (0, q.2.1 + 1, 0) := by
          unfold ast
          rcases ep with ep | ep
          · rw [if_neg (by omega), if_pos ep, if_neg (by omega), if_pos (by omega)]
          · rw [if_neg (by omega), if_neg (by omega), if_neg (by omega), if_neg (by omega), if_pos (by omega)]
        exact v_zret hz hr dX8_takes_127 (Or.inr rfl) ⟨by rw [ea]; exact (bz_t rfl).symm, (RF.rf.put hm _ (Or.inr (Or.inl ⟨rfl, rfl⟩))).put hm _ (Or.inl ⟨rfl, rfl⟩), fun q' hq' => by rw [ea] at hq'; cases hq'; rw [show c = 32 by omega]; exact mrd.space hm hb2⟩
/-- the reference's page -/
def mpg (I : Iz) (A : Nat → Nat) (n : Nat) (pg : Nat → Nat) : Prop := n ≤ 48 ∧ I (A 130) 0 = nI n ∧ ∀ j, j < n → I (A 131) j = nI (pg j) ∧ pg j ≤ 126
theorem RF.mpg {κ : Kz} {R : Rz} {A : Nat → Nat} (hm : LM κ R A) {I I1 : Iz} (hF : RF A I I1) {n : Nat} {pg : Nat → Nat} (h : mpg I A n pg) : mpg I1 A n pg := ⟨h.1, (hF.2.1 0 (by decide)).trans h.2.1, fun j hj => by
  rw [hF.1 (A 131) (hm.ne 1 0 (by decide) (by decide) (by decide)) (hm.ne 1 4 (by decide) (by decide) (by decide)) (hm.ne 1 6 (by decide) (by decide) (by decide)) (hm.ne 1 7 (by decide) (by decide) (by decide)) (hm.ne 1 8 (by decide) (by decide) (by decide))]
  exact h.2.2 j hj⟩
theorem sB_n {pg : Nat → Nat} {n f : Nat} (h : isFt pg n f) (e : f ≠ n) : ¬ segB pg n = true := by
  obtain ⟨h1, -, h3⟩ := h
  have := aru_mono (h3 (by omega)) (n - (f + 1))
  rw [show f + 1 + (n - (f + 1)) = n by omega] at this
  unfold segB
  rw [this]
  decide
theorem sB_t {pg : Nat → Nat} {n : Nat} {q : Nat × Nat × Nat} (h : aru pg n = some q) (e : q.1 = 1 ∨ q.1 = 4) : segB pg n = true := by
  unfold segB
  rw [h]
  rcases e with e | e <;> simp [e]
theorem sB_f {pg : Nat → Nat} {n : Nat} {q : Nat × Nat × Nat} (h : aru pg n = some q) (e : ¬ (q.1 = 1 ∨ q.1 = 4)) : ¬ segB pg n = true := by
  unfold segB
  rw [h]
  simp
  omega
set_option maxHeartbeats 4000000 in
set_option maxRecDepth 100000 in
theorem lp_readPage {z : Zz} {κ : Kz} {I0 : Iz} {R : Rz} {J : Jz} {A : Nat → Nat} (hm : LM κ R A) (hz : Am z cX8_readPage RX8 2 4) {n : Nat} {pg : Nat → Nat} (h0 : mpg I0 A n pg) (hr : Rt z yX8_readPage (some .int) 0 0 (Si κ R J (fun r I1 => RF A I0 I1 ∧ ∃ f, r = nI f ∧ isFt pg n f ∧ (f = n → ∃ q, aru pg n = some q ∧ mrd I1 A q.1 (prs pg n))))) :
    ∀ (m f : Nat) (q : Nat × Nat × Nat) (I : Iz), f ≤ n → n + 1 ≤ f + m → aru pg f = some q → mrd I A q.1 (prs pg f) → RF A I0 I → V z 2 0 0 15 [(0, .ref (A 130)), (1, .int (nI f))] [] κ I R J := by
  have hk := hm.k
  have ho := hm.o
  have hR1 := hm.r1
  have hK1 := hm.k1
  have hN1 := hm.n1
  have hO1 := hm.o1
  have hR4 := hm.r4
  have hK4 := hm.k4
  have hN4 := hm.n4
  have hO4 := hm.o4
  have hn := h0.1
  intro m
  induction m with
  | zero => intro f q I hf hm9; exact absurd hm9 (by omega)
  | succ m ih =>
  intro f q I hf hm9 hq hrd hF
  have hp := hF.mpg hm h0
  refine v_iload_n hz dX8_readPage_15 rfl ?_
  refine v_aload_n hz dX8_readPage_16 rfl ?_
  refine v_getI hz fX8_79 (by assumption) dX8_readPage_17 ?_
  refine v_top hp.2.1 ?_
  first | with_reducible refine v_icmp_geN hz 42 (by omega) (by omega) dX8_readPage_20 (by decide) (fun c20 => ?_) (fun c20 => ?_) | refine v_icmp_ge hz 42 dX8_readPage_20 (by decide) (fun c20 => ?_) (fun c20 => ?_)
  · exact v_iload_n hz dX8_readPage_42 rfl (v_iret hz hr dX8_readPage_43 ⟨hF, f, rfl, ⟨hf, by rw [hq]; rfl, fun e => absurd e (by omega)⟩, fun e => ⟨q, by rw [← e]; exact hq, by rw [← e]; exact hrd⟩⟩)
  · refine v_aload_n hz dX8_readPage_23 rfl ?_
    refine v_aload_n hz dX8_readPage_24 rfl ?_
    refine v_getR hz fX8_7 (by assumption) (by assumption) dX8_readPage_25 ?_
    refine v_iload_n hz dX8_readPage_28 rfl ?_
    refine v_ialdN hz (by assumption) (by assumption) (by omega) (by decide) dX8_readPage_29 ?_
    refine v_top (hp.2.2 f (by omega)).1 ?_
    have hP := prs_PIv hq
    refine v_callVi hz lX8_92 (cX8_takes_ok _ _ _ _ _ _ A hm q (prs pg f) f (pg f) hP (hp.2.2 f (by omega)).2 hrd) (by assumption) rfl rfl (Nat.le_of_ble_eq_true rfl) (by decide) ⟨Nat.zero_le _, Nat.zero_le _⟩ dX8_readPage_30 (fun r I1 h30 => ?_)
    obtain ⟨rfl, hF2, hM2⟩ := h30
    have hn1 : aru pg (f + 1) = ast q (pg f) := by show (aru pg f).bind _ = _; rw [hq]; rfl
    first | with_reducible refine v_if_eqB hz 42 dX8_readPage_33 (by decide) (fun c33 => ?_) (fun c33 => ?_) | with_reducible refine v_if_eqN hz 42 (by omega) dX8_readPage_33 (by decide) (fun c33 => ?_) (fun c33 => ?_) | refine v_if_eq hz 42 dX8_readPage_33 (by decide) (fun c33 => ?_) (fun c33 => ?_)
    · exact v_iload_n hz dX8_readPage_42 rfl (v_iret hz hr dX8_readPage_43 ⟨hF.tr hF2, f, rfl, ⟨hf, by rw [hq]; rfl, fun e => by rw [hn1]; exact Option.not_isSome_iff_eq_none.mp c33⟩, fun e => absurd e (by omega)⟩)
    · first | refine v_iincN hz 1 dX8_readPage_36 (by decide) rfl (by decide) rfl ?_ | refine v_iinc hz dX8_readPage_36 rfl (by decide) rfl ?_
      refine v_goto hz 15 dX8_readPage_39 (by decide) ?_
      obtain ⟨q', hq'⟩ := Option.isSome_iff_exists.mp c33
      exact v_sub (ih (f + 1) q' _ (by omega) (by omega) (by rw [hn1]; exact hq') (hM2 q' hq') (hF.tr hF2)) ⟨rfl, rfl, trivial⟩
set_option maxHeartbeats 4000000 in
set_option maxRecDepth 100000 in
theorem cX8_readPage_ok (l : Launch) (g : Gz) (κ : Kz) (I : Iz) (R : Rz) (J : Jz) (A : Nat → Nat) (hm : LM κ R A) (n : Nat) (pg : Nat → Nat) (h0 : mpg I A n pg) : Ct l mX8_readPage 0 0 g [.ref (A 130)] κ I R J (Si κ R J (fun r I1 => RF A I I1 ∧ ∃ f, r = nI f ∧ isFt pg n f ∧ (f = n → ∃ q, aru pg n = some q ∧ mrd I1 A q.1 (prs pg n)))) := by
  refine ct_of (by decide) (Nat.le_of_ble_eq_true rfl) ?_
  intro z hz hr hrc hrs
  have hz : Am z cX8_readPage RX8 2 4 := hz
  have hr : Rt z yX8_readPage (some .int) 0 0 _ := hr
  show V z 2 0 0 0 [(0, .ref (A 130))] [] κ I R J
  have hk := hm.k
  have ho := hm.o
  have hR1 := hm.r1
  have hK1 := hm.k1
  have hN1 := hm.n1
  have hO1 := hm.o1
  have hR4 := hm.r4
  have hK4 := hm.k4
  have hN4 := hm.n4
  have hO4 := hm.o4
  refine v_aload_n hz dX8_readPage_0 rfl ?_
  refine v_getR hz fX8_13 (by assumption) (by assumption) dX8_readPage_1 ?_
  refine v_bi (v := nI 13) hz dX8_readPage_4 (by decide) ?_
  refine v_ic (v := nI 0) hz dX8_readPage_6 (by decide) ?_
  refine v_iastN hz (by assumption) (by assumption) (by omega) (by decide) dX8_readPage_7 ?_
  refine v_aload_n hz dX8_readPage_8 rfl ?_
  refine v_ic (v := nI 0) hz dX8_readPage_9 (by decide) ?_
  refine v_putI hz fX8_82 (by assumption) dX8_readPage_10 ?_
  refine v_ic (v := nI 0) hz dX8_readPage_13 (by decide) ?_
  refine v_istore_n hz dX8_readPage_14 (by decide) rfl ?_
  exact v_sub (lp_readPage hm hz h0 hr (n + 1) 0 (0, 0, 0) _ (by omega) (by omega) rfl ⟨u2_eq, by rw [u2_ne (show A 134 ≠ A 130 from hm.ne 4 0 (by decide) (by decide) (by decide)), u2_eq]; rfl, fun i hi => by rcases hi with hi | hi; exact absurd hi (Nat.not_lt_zero i); exact absurd rfl hi.2⟩ ((RF.rf.put hm _ (Or.inr (Or.inl ⟨rfl, rfl⟩))).put hm _ (Or.inl ⟨rfl, rfl⟩))) ⟨rfl, rfl, trivial⟩
set_option maxHeartbeats 4000000 in
set_option maxRecDepth 100000 in
theorem cX8_fault_ok (l : Launch) (g : Gz) (κ : Kz) (I : Iz) (R : Rz) (J : Jz) (A : Nat → Nat) (hm : LM κ R A) (n : Nat) (pg : Nat → Nat) (h0 : mpg I A n pg) : Ct l mX8_fault 0 0 g [.ref (A 130)] κ I R J (Si κ R J (fun r I1 => RF A I I1 ∧ ∃ f, r = nI f ∧ isFt pg n f)) := by
  refine ct_of (by decide) (Nat.le_of_ble_eq_true rfl) ?_
  intro z hz hr hrc hrs
  have hz : Am z cX8_fault RX8 1 5 := hz
  have hr : Rt z yX8_fault (some .int) 0 0 _ := hr
  show V z 1 0 0 0 [(0, .ref (A 130))] [] κ I R J
  have hk := hm.k
  have ho := hm.o
  refine v_aload_n hz dX8_fault_0 rfl ?_
  refine v_callVi hz lX8_95 (cX8_readPage_ok _ _ _ _ _ _ A hm n pg h0) (by assumption) rfl rfl (Nat.le_of_ble_eq_true rfl) (by decide) ⟨Nat.zero_le _, Nat.zero_le _⟩ dX8_fault_1 (fun r I1 h1 => ?_)
  exact v_iret hz hr dX8_fault_4 ⟨h1.1, h1.2.choose, h1.2.choose_spec.1, h1.2.choose_spec.2.1⟩
set_option maxHeartbeats 4000000 in
set_option maxRecDepth 100000 in
theorem cX8_isSegment_ok (l : Launch) (g : Gz) (κ : Kz) (I : Iz) (R : Rz) (J : Jz) (A : Nat → Nat) (hm : LM κ R A) (n : Nat) (pg : Nat → Nat) (h0 : mpg I A n pg) : Ct l mX8_isSegment 0 0 g [.ref (A 130)] κ I R J (Si κ R J (fun r I1 => r = bz (segB pg n = true) ∧ RF A I I1 ∧ (segB pg n = true → msg I1 A 13 (sgOf pg n)))) := by
  refine ct_of (by decide) (Nat.le_of_ble_eq_true rfl) ?_
  intro z hz hr hrc hrs
  have hz : Am z cX8_isSegment RX8 2 5 := hz
  have hr : Rt z yX8_isSegment (some .boolean) 0 0 _ := hr
  show V z 2 0 0 0 [(0, .ref (A 130))] [] κ I R J
  have hk := hm.k
  have ho := hm.o
  have hR4 := hm.r4
  have hK4 := hm.k4
  have hN4 := hm.n4
  have hO4 := hm.o4
  have hn48 := h0.1
  refine v_aload_n hz dX8_isSegment_0 rfl ?_
  refine v_callVi hz lX8_95 (cX8_readPage_ok _ _ _ _ _ _ A hm n pg h0) (by assumption) rfl rfl (Nat.le_of_ble_eq_true rfl) (by decide) ⟨Nat.zero_le _, Nat.zero_le _⟩ dX8_isSegment_1 (fun r I1 h1 => ?_)
  obtain ⟨hF, f, rfl, hft, hn⟩ := h1
  have hp := hF.mpg hm h0
  have hfn := hft.1
  refine v_aload_n hz dX8_isSegment_4 rfl ?_
  refine v_getI hz fX8_79 (by assumption) dX8_isSegment_5 ?_
  refine v_top hp.2.1 ?_
  refine v_join2 32 (bz (segB pg n = true)) (fun hj => ?_) ?_
  · first | with_reducible refine v_icmp_neN hz 31 (by omega) (by omega) dX8_isSegment_8 (by decide) (fun c8 => ?_) (fun c8 => ?_) | refine v_icmp_ne hz 31 dX8_isSegment_8 (by decide) (fun c8 => ?_) (fun c8 => ?_)
    · refine v_ic (v := nI 0) hz dX8_isSegment_31 (by decide) ?_
      exact v_top (by first | exact (bz_f (sB_n hft c8)).symm | exact (bz_t (sB_t hq (by omega))).symm | exact (bz_f (sB_f hq (by omega))).symm) hj
    · have fn : f = n := by omega
      obtain ⟨q, hq, hmd⟩ := hn fn
      have q4 : q.1 ≤ 4 := (prs_PIv hq).2.2.1
      refine v_aload_n hz dX8_isSegment_11 rfl ?_
      refine v_getI hz fX8_82 (by assumption) dX8_isSegment_12 ?_
      refine v_top hmd.1 ?_
      refine v_ic (v := nI 1) hz dX8_isSegment_15 (by decide) ?_
      first | with_reducible refine v_icmp_eqN hz 27 (by omega) (by omega) dX8_isSegment_16 (by decide) (fun c16 => ?_) (fun c16 => ?_) | refine v_icmp_eq hz 27 dX8_isSegment_16 (by decide) (fun c16 => ?_) (fun c16 => ?_)
      · refine v_ic (v := nI 1) hz dX8_isSegment_27 (by decide) ?_
        refine v_goto hz 32 dX8_isSegment_28 (by decide) ?_
        exact v_top (by first | exact (bz_f (sB_n hft c8)).symm | exact (bz_t (sB_t hq (by omega))).symm | exact (bz_f (sB_f hq (by omega))).symm) hj
      · refine v_aload_n hz dX8_isSegment_19 rfl ?_
        refine v_getI hz fX8_82 (by assumption) dX8_isSegment_20 ?_
        refine v_top hmd.1 ?_
        refine v_ic (v := nI 4) hz dX8_isSegment_23 (by decide) ?_
        first | with_reducible refine v_icmp_neN hz 31 (by omega) (by omega) dX8_isSegment_24 (by decide) (fun c24 => ?_) (fun c24 => ?_) | refine v_icmp_ne hz 31 dX8_isSegment_24 (by decide) (fun c24 => ?_) (fun c24 => ?_)
        · refine v_ic (v := nI 0) hz dX8_isSegment_31 (by decide) ?_
          exact v_top (by first | exact (bz_f (sB_n hft c8)).symm | exact (bz_t (sB_t hq (by omega))).symm | exact (bz_f (sB_f hq (by omega))).symm) hj
        · refine v_ic (v := nI 1) hz dX8_isSegment_27 (by decide) ?_
          refine v_goto hz 32 dX8_isSegment_28 (by decide) ?_
          exact v_top (by first | exact (bz_f (sB_n hft c8)).symm | exact (bz_t (sB_t hq (by omega))).symm | exact (bz_f (sB_f hq (by omega))).symm) hj
  refine v_istore_n hz dX8_isSegment_32 (by decide) rfl ?_
  refine v_aload_n hz dX8_isSegment_33 rfl ?_
  refine v_getR hz fX8_13 (by assumption) (by assumption) dX8_isSegment_34 ?_
  refine v_bi (v := nI 13) hz dX8_isSegment_37 (by decide) ?_
  refine v_dup2 hz dX8_isSegment_39 rfl rfl ?_
  refine v_ialdN hz (by assumption) (by assumption) (by omega) (by decide) dX8_isSegment_40 ?_
  refine v_iload_n hz dX8_isSegment_41 rfl ?_
  first | with_reducible refine v_if_eqB hz 49 dX8_isSegment_42 (by decide) (fun c42 => ?_) (fun c42 => ?_) | with_reducible refine v_if_eqN hz 49 (by omega) dX8_isSegment_42 (by decide) (fun c42 => ?_) (fun c42 => ?_) | refine v_if_eq hz 49 dX8_isSegment_42 (by decide) (fun c42 => ?_) (fun c42 => ?_)
  · refine v_ic (v := nI 0) hz dX8_isSegment_49 (by decide) ?_
    first | with_reducible refine v_iaddN hz dX8_isSegment_50 ?_ | refine v_iadd hz dX8_isSegment_50 ?_
    refine v_iastN hz (by assumption) (by assumption) (by omega) (by decide) dX8_isSegment_51 ?_
    refine v_iload_n hz dX8_isSegment_52 rfl ?_
    first
    | (have fn : f = n := Classical.not_not.mp (fun e => sB_n hft e c42)
       obtain ⟨q, hq, hmd⟩ := hn fn
       have hok := segB_ok c42
       have hmm := hmd.to2 (fun e => sB_f hq (by omega) c42)
       refine v_zret hz hr dX8_isSegment_53 bz_01 ⟨rfl, hF.put hm _ (Or.inr (Or.inl ⟨rfl, rfl⟩)), fun _ => ⟨by decide, hok.1.2.1, by rw [u2_eq, hmm.1, nI_add]; rfl, fun i hi => ?_⟩⟩
       have hi' : i ≤ (prs pg n).1 := Nat.le_of_lt_succ hi
       obtain ⟨m1, m2, m3⟩ := hmm.2 i hi'
       obtain ⟨o1, o2, o3⟩ := hok.1.2.2 i hi
       have o0 := hok.1.2.1
       unfold msn dgt
       rw [u2_ne (show A 136 ≠ A 134 from hm.ne 6 4 (by decide) (by decide) (by decide)), u2_ne (show A 137 ≠ A 134 from hm.ne 7 4 (by decide) (by decide) (by decide)), u2_ne (show A 138 ≠ A 134 from hm.ne 8 4 (by decide) (by decide) (by decide)), show 8 * 13 + i = 104 + i by omega]
       exact ⟨⟨by omega, o1, m1, fun j hj => ⟨m3 j hj, by have := o3 j hj; omega⟩⟩, m2, o2⟩)
    | (exact v_zret hz hr dX8_isSegment_53 bz_01 ⟨rfl, hF.put hm _ (Or.inr (Or.inl ⟨rfl, rfl⟩)), fun e => absurd e c42⟩)
  · refine v_ic (v := nI 1) hz dX8_isSegment_45 (by decide) ?_
    refine v_goto hz 50 dX8_isSegment_46 (by decide) ?_
    first | with_reducible refine v_iaddN hz dX8_isSegment_50 ?_ | refine v_iadd hz dX8_isSegment_50 ?_
    refine v_iastN hz (by assumption) (by assumption) (by omega) (by decide) dX8_isSegment_51 ?_
    refine v_iload_n hz dX8_isSegment_52 rfl ?_
    first
    | (have fn : f = n := Classical.not_not.mp (fun e => sB_n hft e c42)
       obtain ⟨q, hq, hmd⟩ := hn fn
       have hok := segB_ok c42
       have hmm := hmd.to2 (fun e => sB_f hq (by omega) c42)
       refine v_zret hz hr dX8_isSegment_53 bz_01 ⟨rfl, hF.put hm _ (Or.inr (Or.inl ⟨rfl, rfl⟩)), fun _ => ⟨by decide, hok.1.2.1, by rw [u2_eq, hmm.1, nI_add]; rfl, fun i hi => ?_⟩⟩
       have hi' : i ≤ (prs pg n).1 := Nat.le_of_lt_succ hi
       obtain ⟨m1, m2, m3⟩ := hmm.2 i hi'
       obtain ⟨o1, o2, o3⟩ := hok.1.2.2 i hi
       have o0 := hok.1.2.1
       unfold msn dgt
       rw [u2_ne (show A 136 ≠ A 134 from hm.ne 6 4 (by decide) (by decide) (by decide)), u2_ne (show A 137 ≠ A 134 from hm.ne 7 4 (by decide) (by decide) (by decide)), u2_ne (show A 138 ≠ A 134 from hm.ne 8 4 (by decide) (by decide) (by decide)), show 8 * 13 + i = 104 + i by omega]
       exact ⟨⟨by omega, o1, m1, fun j hj => ⟨m3 j hj, by have := o3 j hj; omega⟩⟩, m2, o2⟩)
    | (exact v_zret hz hr dX8_isSegment_53 bz_01 ⟨rfl, hF.put hm _ (Or.inr (Or.inl ⟨rfl, rfl⟩)), fun e => absurd e c42⟩)
