/-! ===== the reference: its cells by their tags (130 the object, 130 + f the row of the field f) ===== -/
theorem tag_ne {κ : Kz} {x y s t : Nat} (h1 : κ.2.2 x = s) (h2 : κ.2.2 y = t) (h : s ≠ t) : x ≠ y := fun e => h (by rw [← h1, ← h2, e])
def mArr : List (Nat × Nat × Nat) := [(1, 9, 48), (4, 9, 14), (5, 9, 14), (6, 9, 112), (7, 9, 112), (8, 9, 1344), (15, 9, 169), (16, 9, 81), (17, 9, 64), (19, 9, 16), (20, 9, 16), (21, 9, 16), (22, 9, 16), (23, 9, 784), (25, 9, 12), (26, 9, 12), (27, 9, 12), (28, 10, 8), (29, 10, 784)]
def LM (κ : Kz) (R : Rz) (A : Nat → Nat) : Prop := κ.1 (A 130) = 8 ∧ κ.2.2 (A 130) = 130 ∧ ∀ f t n, (f, t, n) ∈ mArr → R (A 130) f = some (A (130 + f)) ∧ κ.1 (A (130 + f)) = t ∧ κ.2.1 (A (130 + f)) = n ∧ κ.2.2 (A (130 + f)) = 130 + f
theorem LM.k {κ : Kz} {R : Rz} {A : Nat → Nat} (h : LM κ R A) : κ.1 (A 130) = 8 := h.1
theorem LM.o {κ : Kz} {R : Rz} {A : Nat → Nat} (h : LM κ R A) : κ.2.2 (A 130) = 130 := h.2.1
theorem LM.r1 {κ : Kz} {R : Rz} {A : Nat → Nat} (h : LM κ R A) : R (A 130) 1 = some (A 131) := (h.2.2 1 9 48 (by decide)).1
theorem LM.k1 {κ : Kz} {R : Rz} {A : Nat → Nat} (h : LM κ R A) : κ.1 (A 131) = 9 := (h.2.2 1 9 48 (by decide)).2.1
theorem LM.n1 {κ : Kz} {R : Rz} {A : Nat → Nat} (h : LM κ R A) : κ.2.1 (A 131) = 48 := (h.2.2 1 9 48 (by decide)).2.2.1
theorem LM.o1 {κ : Kz} {R : Rz} {A : Nat → Nat} (h : LM κ R A) : κ.2.2 (A 131) = 131 := (h.2.2 1 9 48 (by decide)).2.2.2
theorem LM.r4 {κ : Kz} {R : Rz} {A : Nat → Nat} (h : LM κ R A) : R (A 130) 4 = some (A 134) := (h.2.2 4 9 14 (by decide)).1
theorem LM.k4 {κ : Kz} {R : Rz} {A : Nat → Nat} (h : LM κ R A) : κ.1 (A 134) = 9 := (h.2.2 4 9 14 (by decide)).2.1
theorem LM.n4 {κ : Kz} {R : Rz} {A : Nat → Nat} (h : LM κ R A) : κ.2.1 (A 134) = 14 := (h.2.2 4 9 14 (by decide)).2.2.1
theorem LM.o4 {κ : Kz} {R : Rz} {A : Nat → Nat} (h : LM κ R A) : κ.2.2 (A 134) = 134 := (h.2.2 4 9 14 (by decide)).2.2.2
theorem LM.r5 {κ : Kz} {R : Rz} {A : Nat → Nat} (h : LM κ R A) : R (A 130) 5 = some (A 135) := (h.2.2 5 9 14 (by decide)).1
theorem LM.k5 {κ : Kz} {R : Rz} {A : Nat → Nat} (h : LM κ R A) : κ.1 (A 135) = 9 := (h.2.2 5 9 14 (by decide)).2.1
theorem LM.n5 {κ : Kz} {R : Rz} {A : Nat → Nat} (h : LM κ R A) : κ.2.1 (A 135) = 14 := (h.2.2 5 9 14 (by decide)).2.2.1
theorem LM.o5 {κ : Kz} {R : Rz} {A : Nat → Nat} (h : LM κ R A) : κ.2.2 (A 135) = 135 := (h.2.2 5 9 14 (by decide)).2.2.2
theorem LM.r6 {κ : Kz} {R : Rz} {A : Nat → Nat} (h : LM κ R A) : R (A 130) 6 = some (A 136) := (h.2.2 6 9 112 (by decide)).1
theorem LM.k6 {κ : Kz} {R : Rz} {A : Nat → Nat} (h : LM κ R A) : κ.1 (A 136) = 9 := (h.2.2 6 9 112 (by decide)).2.1
theorem LM.n6 {κ : Kz} {R : Rz} {A : Nat → Nat} (h : LM κ R A) : κ.2.1 (A 136) = 112 := (h.2.2 6 9 112 (by decide)).2.2.1
theorem LM.o6 {κ : Kz} {R : Rz} {A : Nat → Nat} (h : LM κ R A) : κ.2.2 (A 136) = 136 := (h.2.2 6 9 112 (by decide)).2.2.2
theorem LM.r7 {κ : Kz} {R : Rz} {A : Nat → Nat} (h : LM κ R A) : R (A 130) 7 = some (A 137) := (h.2.2 7 9 112 (by decide)).1
theorem LM.k7 {κ : Kz} {R : Rz} {A : Nat → Nat} (h : LM κ R A) : κ.1 (A 137) = 9 := (h.2.2 7 9 112 (by decide)).2.1
theorem LM.n7 {κ : Kz} {R : Rz} {A : Nat → Nat} (h : LM κ R A) : κ.2.1 (A 137) = 112 := (h.2.2 7 9 112 (by decide)).2.2.1
theorem LM.o7 {κ : Kz} {R : Rz} {A : Nat → Nat} (h : LM κ R A) : κ.2.2 (A 137) = 137 := (h.2.2 7 9 112 (by decide)).2.2.2
theorem LM.r8 {κ : Kz} {R : Rz} {A : Nat → Nat} (h : LM κ R A) : R (A 130) 8 = some (A 138) := (h.2.2 8 9 1344 (by decide)).1
theorem LM.k8 {κ : Kz} {R : Rz} {A : Nat → Nat} (h : LM κ R A) : κ.1 (A 138) = 9 := (h.2.2 8 9 1344 (by decide)).2.1
theorem LM.n8 {κ : Kz} {R : Rz} {A : Nat → Nat} (h : LM κ R A) : κ.2.1 (A 138) = 1344 := (h.2.2 8 9 1344 (by decide)).2.2.1
theorem LM.o8 {κ : Kz} {R : Rz} {A : Nat → Nat} (h : LM κ R A) : κ.2.2 (A 138) = 138 := (h.2.2 8 9 1344 (by decide)).2.2.2
theorem LM.r15 {κ : Kz} {R : Rz} {A : Nat → Nat} (h : LM κ R A) : R (A 130) 15 = some (A 145) := (h.2.2 15 9 169 (by decide)).1
theorem LM.k15 {κ : Kz} {R : Rz} {A : Nat → Nat} (h : LM κ R A) : κ.1 (A 145) = 9 := (h.2.2 15 9 169 (by decide)).2.1
theorem LM.n15 {κ : Kz} {R : Rz} {A : Nat → Nat} (h : LM κ R A) : κ.2.1 (A 145) = 169 := (h.2.2 15 9 169 (by decide)).2.2.1
theorem LM.o15 {κ : Kz} {R : Rz} {A : Nat → Nat} (h : LM κ R A) : κ.2.2 (A 145) = 145 := (h.2.2 15 9 169 (by decide)).2.2.2
theorem LM.r16 {κ : Kz} {R : Rz} {A : Nat → Nat} (h : LM κ R A) : R (A 130) 16 = some (A 146) := (h.2.2 16 9 81 (by decide)).1
theorem LM.k16 {κ : Kz} {R : Rz} {A : Nat → Nat} (h : LM κ R A) : κ.1 (A 146) = 9 := (h.2.2 16 9 81 (by decide)).2.1
theorem LM.n16 {κ : Kz} {R : Rz} {A : Nat → Nat} (h : LM κ R A) : κ.2.1 (A 146) = 81 := (h.2.2 16 9 81 (by decide)).2.2.1
theorem LM.o16 {κ : Kz} {R : Rz} {A : Nat → Nat} (h : LM κ R A) : κ.2.2 (A 146) = 146 := (h.2.2 16 9 81 (by decide)).2.2.2
theorem LM.r17 {κ : Kz} {R : Rz} {A : Nat → Nat} (h : LM κ R A) : R (A 130) 17 = some (A 147) := (h.2.2 17 9 64 (by decide)).1
theorem LM.k17 {κ : Kz} {R : Rz} {A : Nat → Nat} (h : LM κ R A) : κ.1 (A 147) = 9 := (h.2.2 17 9 64 (by decide)).2.1
theorem LM.n17 {κ : Kz} {R : Rz} {A : Nat → Nat} (h : LM κ R A) : κ.2.1 (A 147) = 64 := (h.2.2 17 9 64 (by decide)).2.2.1
theorem LM.o17 {κ : Kz} {R : Rz} {A : Nat → Nat} (h : LM κ R A) : κ.2.2 (A 147) = 147 := (h.2.2 17 9 64 (by decide)).2.2.2
theorem LM.r19 {κ : Kz} {R : Rz} {A : Nat → Nat} (h : LM κ R A) : R (A 130) 19 = some (A 149) := (h.2.2 19 9 16 (by decide)).1
theorem LM.k19 {κ : Kz} {R : Rz} {A : Nat → Nat} (h : LM κ R A) : κ.1 (A 149) = 9 := (h.2.2 19 9 16 (by decide)).2.1
theorem LM.n19 {κ : Kz} {R : Rz} {A : Nat → Nat} (h : LM κ R A) : κ.2.1 (A 149) = 16 := (h.2.2 19 9 16 (by decide)).2.2.1
theorem LM.o19 {κ : Kz} {R : Rz} {A : Nat → Nat} (h : LM κ R A) : κ.2.2 (A 149) = 149 := (h.2.2 19 9 16 (by decide)).2.2.2
theorem LM.r20 {κ : Kz} {R : Rz} {A : Nat → Nat} (h : LM κ R A) : R (A 130) 20 = some (A 150) := (h.2.2 20 9 16 (by decide)).1
theorem LM.k20 {κ : Kz} {R : Rz} {A : Nat → Nat} (h : LM κ R A) : κ.1 (A 150) = 9 := (h.2.2 20 9 16 (by decide)).2.1
theorem LM.n20 {κ : Kz} {R : Rz} {A : Nat → Nat} (h : LM κ R A) : κ.2.1 (A 150) = 16 := (h.2.2 20 9 16 (by decide)).2.2.1
theorem LM.o20 {κ : Kz} {R : Rz} {A : Nat → Nat} (h : LM κ R A) : κ.2.2 (A 150) = 150 := (h.2.2 20 9 16 (by decide)).2.2.2
theorem LM.r21 {κ : Kz} {R : Rz} {A : Nat → Nat} (h : LM κ R A) : R (A 130) 21 = some (A 151) := (h.2.2 21 9 16 (by decide)).1
theorem LM.k21 {κ : Kz} {R : Rz} {A : Nat → Nat} (h : LM κ R A) : κ.1 (A 151) = 9 := (h.2.2 21 9 16 (by decide)).2.1
theorem LM.n21 {κ : Kz} {R : Rz} {A : Nat → Nat} (h : LM κ R A) : κ.2.1 (A 151) = 16 := (h.2.2 21 9 16 (by decide)).2.2.1
theorem LM.o21 {κ : Kz} {R : Rz} {A : Nat → Nat} (h : LM κ R A) : κ.2.2 (A 151) = 151 := (h.2.2 21 9 16 (by decide)).2.2.2
theorem LM.r22 {κ : Kz} {R : Rz} {A : Nat → Nat} (h : LM κ R A) : R (A 130) 22 = some (A 152) := (h.2.2 22 9 16 (by decide)).1
theorem LM.k22 {κ : Kz} {R : Rz} {A : Nat → Nat} (h : LM κ R A) : κ.1 (A 152) = 9 := (h.2.2 22 9 16 (by decide)).2.1
theorem LM.n22 {κ : Kz} {R : Rz} {A : Nat → Nat} (h : LM κ R A) : κ.2.1 (A 152) = 16 := (h.2.2 22 9 16 (by decide)).2.2.1
theorem LM.o22 {κ : Kz} {R : Rz} {A : Nat → Nat} (h : LM κ R A) : κ.2.2 (A 152) = 152 := (h.2.2 22 9 16 (by decide)).2.2.2
theorem LM.r23 {κ : Kz} {R : Rz} {A : Nat → Nat} (h : LM κ R A) : R (A 130) 23 = some (A 153) := (h.2.2 23 9 784 (by decide)).1
theorem LM.k23 {κ : Kz} {R : Rz} {A : Nat → Nat} (h : LM κ R A) : κ.1 (A 153) = 9 := (h.2.2 23 9 784 (by decide)).2.1
theorem LM.n23 {κ : Kz} {R : Rz} {A : Nat → Nat} (h : LM κ R A) : κ.2.1 (A 153) = 784 := (h.2.2 23 9 784 (by decide)).2.2.1
theorem LM.o23 {κ : Kz} {R : Rz} {A : Nat → Nat} (h : LM κ R A) : κ.2.2 (A 153) = 153 := (h.2.2 23 9 784 (by decide)).2.2.2
theorem LM.r25 {κ : Kz} {R : Rz} {A : Nat → Nat} (h : LM κ R A) : R (A 130) 25 = some (A 155) := (h.2.2 25 9 12 (by decide)).1
theorem LM.k25 {κ : Kz} {R : Rz} {A : Nat → Nat} (h : LM κ R A) : κ.1 (A 155) = 9 := (h.2.2 25 9 12 (by decide)).2.1
theorem LM.n25 {κ : Kz} {R : Rz} {A : Nat → Nat} (h : LM κ R A) : κ.2.1 (A 155) = 12 := (h.2.2 25 9 12 (by decide)).2.2.1
theorem LM.o25 {κ : Kz} {R : Rz} {A : Nat → Nat} (h : LM κ R A) : κ.2.2 (A 155) = 155 := (h.2.2 25 9 12 (by decide)).2.2.2
theorem LM.r26 {κ : Kz} {R : Rz} {A : Nat → Nat} (h : LM κ R A) : R (A 130) 26 = some (A 156) := (h.2.2 26 9 12 (by decide)).1
theorem LM.k26 {κ : Kz} {R : Rz} {A : Nat → Nat} (h : LM κ R A) : κ.1 (A 156) = 9 := (h.2.2 26 9 12 (by decide)).2.1
theorem LM.n26 {κ : Kz} {R : Rz} {A : Nat → Nat} (h : LM κ R A) : κ.2.1 (A 156) = 12 := (h.2.2 26 9 12 (by decide)).2.2.1
theorem LM.o26 {κ : Kz} {R : Rz} {A : Nat → Nat} (h : LM κ R A) : κ.2.2 (A 156) = 156 := (h.2.2 26 9 12 (by decide)).2.2.2
theorem LM.r27 {κ : Kz} {R : Rz} {A : Nat → Nat} (h : LM κ R A) : R (A 130) 27 = some (A 157) := (h.2.2 27 9 12 (by decide)).1
theorem LM.k27 {κ : Kz} {R : Rz} {A : Nat → Nat} (h : LM κ R A) : κ.1 (A 157) = 9 := (h.2.2 27 9 12 (by decide)).2.1
theorem LM.n27 {κ : Kz} {R : Rz} {A : Nat → Nat} (h : LM κ R A) : κ.2.1 (A 157) = 12 := (h.2.2 27 9 12 (by decide)).2.2.1
theorem LM.o27 {κ : Kz} {R : Rz} {A : Nat → Nat} (h : LM κ R A) : κ.2.2 (A 157) = 157 := (h.2.2 27 9 12 (by decide)).2.2.2
theorem LM.r28 {κ : Kz} {R : Rz} {A : Nat → Nat} (h : LM κ R A) : R (A 130) 28 = some (A 158) := (h.2.2 28 10 8 (by decide)).1
theorem LM.k28 {κ : Kz} {R : Rz} {A : Nat → Nat} (h : LM κ R A) : κ.1 (A 158) = 10 := (h.2.2 28 10 8 (by decide)).2.1
theorem LM.n28 {κ : Kz} {R : Rz} {A : Nat → Nat} (h : LM κ R A) : κ.2.1 (A 158) = 8 := (h.2.2 28 10 8 (by decide)).2.2.1
theorem LM.o28 {κ : Kz} {R : Rz} {A : Nat → Nat} (h : LM κ R A) : κ.2.2 (A 158) = 158 := (h.2.2 28 10 8 (by decide)).2.2.2
theorem LM.r29 {κ : Kz} {R : Rz} {A : Nat → Nat} (h : LM κ R A) : R (A 130) 29 = some (A 159) := (h.2.2 29 10 784 (by decide)).1
theorem LM.k29 {κ : Kz} {R : Rz} {A : Nat → Nat} (h : LM κ R A) : κ.1 (A 159) = 10 := (h.2.2 29 10 784 (by decide)).2.1
theorem LM.n29 {κ : Kz} {R : Rz} {A : Nat → Nat} (h : LM κ R A) : κ.2.1 (A 159) = 784 := (h.2.2 29 10 784 (by decide)).2.2.1
theorem LM.o29 {κ : Kz} {R : Rz} {A : Nat → Nat} (h : LM κ R A) : κ.2.2 (A 159) = 159 := (h.2.2 29 10 784 (by decide)).2.2.2
