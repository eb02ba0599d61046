/-! ===== the constructors ===== -/
def Sn (p : Kz → Iz → Rz → Prop) : Postz := fun v κ' I' R' _ => v = none ∧ p κ' I' R'
theorem v_callIn {z : Zz} {cc : ByteArray} {own : String} {nL d k n pc : Nat} {lv : List (Nat × Value)} {st : List Value} {κ : Kz} {I : Iz} {R : Rz} {J : Jz} {p : Kz → Iz → Rz → Prop} (hz : Am z cc own nL d) {idx na mc ms : Nat} {M : Mz} (ml : GWz M na ∧ Cond.instanceMethod M.1 ∈ tg ∧ LKz own idx M) (hy : M.1.name = "<init>") (hrt : M.2.2.2.1 = none) {b : Nat} {As rest : List Value} (hc : Ct (zl z) M mc ms (zg z) (.ref b :: As) κ I R J (Sn p)) (hna : As.length = na)
    (hst : st = As.reverse ++ .ref b :: rest) (hrs : (rest.map fun v => v.category).sum ≤ 8) (hd : M.2.2.2.2 + 1 ≤ d ∧ M.2.2.1 ≤ 21) (hroom : k + mc ≤ (zR z).cells ∧ n + ms ≤ (zR z).slots) (dd : decode cc pc = .ok (.invokespecial idx, 3))
    (h : ∀ κ1 I1 R1 J1, p κ1 I1 R1 → V z nL (k + mc) (n + ms) (pc + 3) lv rest κ1 I1 R1 J1) : V z nL k n pc lv st κ I R J :=
  v_callI0 hz ml hy hrt hc hna hst hrs hd hroom dd (fun v κ1 I1 R1 J1 hp => by
    obtain ⟨rfl, hp⟩ := hp
    exact h κ1 I1 R1 J1 hp)
/-- cells of the tags from lo to hi, all 0 -/
def ZC (κ : Kz) (I : Iz) (A : Nat → Nat) (lo hi : Nat) : Prop := ∀ t, lo ≤ t → t < hi → κ.1 (A t) < 15 ∧ κ.2.2 (A t) = t ∧ I (A t) = (fun _ => 0)
/-- an object a (tag b, class c, int fields Ia) that is being made: its fields f that hold the cell of tag t, of kind k and length n, all 0 -/
def Ob (T : Nat → Prop) (κ0 : Kz) (I0 : Iz) (R0 : Rz) (A0 : Nat → Nat) (a b c : Nat) (Ia : Nat → Int32) (S : List (Nat × Nat × Nat × Nat)) (κ : Kz) (I : Iz) (R : Rz) (A : Nat → Nat) : Prop := (κ0.1 a < 15 → T (κ0.2.2 a)) ∧ Ex T κ0 I0 R0 A0 κ I R A ∧ (A b = a ∧ κ.1 a = c ∧ c < 15 ∧ κ.2.2 a = b ∧ I a = Ia) ∧ ∀ x ∈ S, (R a x.1 = some (A x.2.2.2) ∧ κ.1 (A x.2.2.2) = x.2.1 ∧ κ.2.1 (A x.2.2.2) = x.2.2.1 ∧ κ.2.2 (A x.2.2.2) = x.2.2.2 ∧ I (A x.2.2.2) = (fun _ => 0)) ∧ x.2.1 < 15 ∧ x.2.2.2 ≠ b ∧ T x.2.2.2
section
variable {T T2 : Nat → Prop} {κ0 κ κ1 : Kz} {I0 I I1 : Iz} {R0 R R1 : Rz} {A0 A A1 : Nat → Nat} {a b c : Nat} {Ia : Nat → Int32} {S : List (Nat × Nat × Nat × Nat)}
theorem ZC.ex {lo hi : Nat} (h : ZC κ I A lo hi) (e : Ex T κ I R A κ1 I1 R1 A1) (hT : ∀ t, lo ≤ t → t < hi → ¬ T t) : ZC κ1 I1 A1 lo hi := fun t h1 h2 => by
  obtain ⟨a1, a2, a3⟩ := h t h1 h2
  obtain ⟨s1, s2, s3, s4, s5, s6⟩ := e.sm a1 a2 (hT t h1 h2)
  rw [s1, s2, s4, s5]
  exact ⟨a1, a2, a3⟩
theorem ZC.put {lo hi f x : Nat} {y : Option Nat} (h : ZC κ I A lo hi) : ZC κ I A lo hi := h
theorem ZC.one {t : Nat} (h1 : κ.1 (A t) < 15) (h2 : κ.2.2 (A t) = t) (h3 : I (A t) = fun _ => 0) : ZC κ I A t (t + 1) := fun s a b => by
  rw [show s = t by omega]; exact ⟨h1, h2, h3⟩
theorem ZC.app {lo mi hi : Nat} (h : ZC κ I A lo mi) (k : ZC κ I A mi hi) : ZC κ I A lo hi := fun t a b => by
  by_cases e : t < mi
  · exact h t a e
  · exact k t (by omega) b
theorem Ob.st (ha : A b = a) (hk : κ.1 a = c) (hc : c < 15) (ho : κ.2.2 a = b) (hI : I a = Ia) (hT : T b) : Ob T κ I R A a b c Ia [] κ I R A := ⟨fun _ => by rw [ho]; exact hT, Ex.rf, ⟨ha, hk, hc, ho, hI⟩, fun x hx => absurd hx List.not_mem_nil⟩
theorem Ob.ex (h : Ob T κ0 I0 R0 A0 a b c Ia S κ I R A) (e : Ex T2 κ I R A κ1 I1 R1 A1) (hT : ∀ t, T2 t → T t) (hb : ¬ T2 b) (hS : ∀ x ∈ S, ¬ T2 x.2.2.2) : Ob T κ0 I0 R0 A0 a b c Ia S κ1 I1 R1 A1 := by
  obtain ⟨h0, h1, ⟨a1, a2, a3, a4, a5⟩, h3⟩ := h
  obtain ⟨s1, s2, s3, s4, s5, s6⟩ := e.sm (t := b) (by rw [a1, a2]; exact a3) (by rw [a1]; exact a4) hb
  rw [a1] at s1 s2 s3 s4 s5 s6
  refine ⟨h0, h1.tr (e.wid hT), ⟨s1, s2.trans a2, a3, s4.trans a4, s5.trans a5⟩, fun x hx => ?_⟩
  obtain ⟨⟨x1, x2, x3, x4, x5⟩, x6, x7, x8⟩ := h3 x hx
  obtain ⟨t1, t2, t3, t4, t5, t6⟩ := e.sm (t := x.2.2.2) (by rw [x2]; exact x6) x4 (hS x hx)
  rw [t1, t2, t3, t4, t5, s6]
  exact ⟨⟨x1, x2, x3, x4, x5⟩, x6, x7, x8⟩
theorem Ob.put {f k n t : Nat} (h : Ob T κ0 I0 R0 A0 a b c Ia S κ I R A) (hk : κ.1 (A t) = k) (h15 : k < 15) (hN : κ.2.1 (A t) = n) (ho : κ.2.2 (A t) = t) (hI : I (A t) = fun _ => 0) (htb : t ≠ b) (hTt : T t) (hS : ∀ x ∈ S, x.1 ≠ f) : Ob T κ0 I0 R0 A0 a b c Ia ((f, k, n, t) :: S) κ I (u2 R a f (some (A t))) A := by
  obtain ⟨h0, h1, h2, h3⟩ := h
  refine ⟨h0, h1.putR h0, h2, fun x hx => ?_⟩
  rcases List.mem_cons.mp hx with e | e
  · subst e
    exact ⟨⟨u2_eq, hk, hN, ho, hI⟩, h15, htb, hTt⟩
  · rw [u2_at (hS x e)]
    exact h3 x e
theorem Ob.int {f : Nat} {v : Int32} (h : Ob T κ0 I0 R0 A0 a b c Ia S κ I R A) : Ob T κ0 I0 R0 A0 a b c (va_up Ia f v) S κ (u2 I a f v) R A := by
  obtain ⟨h0, h1, ⟨a1, a2, a3, a4, a5⟩, h3⟩ := h
  refine ⟨h0, h1.putI h0, ⟨a1, a2, a3, a4, ?_⟩, fun x hx => ?_⟩
  · rw [u2_row, a5]; rfl
  · obtain ⟨⟨x1, x2, x3, x4, x5⟩, x6, x7, x8⟩ := h3 x hx
    rw [u2_ne (tag_ne x4 a4 x7)]
    exact ⟨⟨x1, x2, x3, x4, x5⟩, x6, x7, x8⟩
/-- a place of one of its arrays is written -/
theorem Ob.arr {t j : Nat} {y : Option Nat} (h : Ob T κ0 I0 R0 A0 a b c Ia S κ I R A) (ht : κ.2.2 (A t) = t) (htb : t ≠ b) (hT : T t) : Ob T κ0 I0 R0 A0 a b c Ia S κ I (u2 R (A t) j y) A := by
  obtain ⟨h0, h1, h2, h3⟩ := h
  refine ⟨h0, h1.putR (fun q => ?_), h2, fun x hx => ?_⟩
  · rw [← (h1.1 _ q).2.2, ht]; exact hT
  · rw [u2_ne (tag_ne h2.2.2.2.1 ht (Ne.symm htb))]
    exact h3 x hx
theorem LSg.ex {b : Nat} (h : LSg κ R A b) (e : Ex T κ I R A κ1 I1 R1 A1) (h0 : ¬ T b) (h1 : ¬ T (b + 1)) : LSg κ1 R1 A1 b := by
  obtain ⟨a1, a2, a3, a4, a5, a6⟩ := h
  obtain ⟨s1, s2, s3, s4, s5, s6⟩ := e.sm (t := b) (by rw [a1]; decide) a5 h0
  obtain ⟨t1, t2, t3, t4, t5, t6⟩ := e.sm (t := b + 1) (by rw [a3]; decide) a6 h1
  exact ⟨by rw [s1, s2]; exact a1, by rw [s1, t1, s6]; exact a2, by rw [t1, t2]; exact a3, by rw [t1, t3]; exact a4, by rw [s1, s4]; exact a5, by rw [t1, t4]; exact a6⟩
theorem LPg.ex (h : LPg κ R A) (e : Ex T κ I R A κ1 I1 R1 A1) (h0 : ¬ T 1) (h1 : ¬ T 2) : LPg κ1 R1 A1 := by
  obtain ⟨a1, a2, a3, a4, a5, a6⟩ := h
  obtain ⟨s1, s2, s3, s4, s5, s6⟩ := e.sm (t := 1) (by rw [a1]; decide) a5 h0
  obtain ⟨t1, t2, t3, t4, t5, t6⟩ := e.sm (t := 2) (by rw [a3]; decide) a6 h1
  exact ⟨by rw [s1, s2]; exact a1, by rw [s1, t1, s6]; exact a2, by rw [t1, t2]; exact a3, by rw [t1, t3]; exact a4, by rw [s1, s4]; exact a5, by rw [t1, t4]; exact a6⟩
theorem LIg.ex (h : LIg κ R A) (e : Ex T κ I R A κ1 I1 R1 A1) (h0 : ¬ T 3) (h1 : ¬ T 4) : LIg κ1 R1 A1 := by
  obtain ⟨a1, a5, a2, a3, a4, a6⟩ := h
  obtain ⟨s1, s2, s3, s4, s5, s6⟩ := e.sm (t := 3) (by rw [a1]; decide) a5 h0
  obtain ⟨t1, t2, t3, t4, t5, t6⟩ := e.sm (t := 4) (by rw [a3]; decide) a6 h1
  exact ⟨by rw [s1, s2]; exact a1, by rw [s1, s4]; exact a5, by rw [s1, t1, s6]; exact a2, by rw [t1, t2]; exact a3, by rw [t1, t3]; exact a4, by rw [t1, t4]; exact a6⟩
/-- an array in a field -/
theorem fld_ex {b f k n t : Nat} (h : R (A b) f = some (A t) ∧ κ.1 (A t) = k ∧ κ.2.1 (A t) = n ∧ κ.2.2 (A t) = t) (hk : k < 15) (e : Ex T κ I R A κ1 I1 R1 A1) (e1 : A1 b = A b) (e6 : R1 (A b) = R (A b)) (ht : ¬ T t) : R1 (A1 b) f = some (A1 t) ∧ κ1.1 (A1 t) = k ∧ κ1.2.1 (A1 t) = n ∧ κ1.2.2 (A1 t) = t := by
  obtain ⟨a1, a2, a3, a4⟩ := h
  obtain ⟨t1, t2, t3, t4, t5, t6⟩ := e.sm (t := t) (by rw [a2]; exact hk) a4 ht
  exact ⟨by rw [e1, e6, t1]; exact a1, by rw [t1, t2]; exact a2, by rw [t1, t3]; exact a3, by rw [t1, t4]; exact a4⟩
theorem LCg.ex {b : Nat} (h : LCg κ R A b) (e : Ex T κ I R A κ1 I1 R1 A1) (hT : ∀ t, b ≤ t → t < b + 5 → ¬ T t) : LCg κ1 R1 A1 b := by
  obtain ⟨a1, a2, a3, a4, a5, a6⟩ := h
  obtain ⟨s1, s2, s3, s4, s5, s6⟩ := e.sm (t := b) (by rw [a1]; decide) a2 (hT b (by omega) (by omega))
  exact ⟨by rw [s1, s2]; exact a1, by rw [s1, s4]; exact a2, fld_ex a3 (by decide) e s1 s6 (hT _ (by omega) (by omega)), fld_ex a4 (by decide) e s1 s6 (hT _ (by omega) (by omega)), fld_ex a5 (by decide) e s1 s6 (hT _ (by omega) (by omega)), fld_ex a6 (by decide) e s1 s6 (hT _ (by omega) (by omega))⟩
theorem LGg.ex {b : Nat} (h : LGg κ R A b) (e : Ex T κ I R A κ1 I1 R1 A1) (hT : ∀ t, b ≤ t → t < b + 19 → ¬ T t) : LGg κ1 R1 A1 b := by
  obtain ⟨a1, a2, a3, a4, a5⟩ := h
  obtain ⟨s1, s2, s3, s4, s5, s6⟩ := e.sm (t := b) (by rw [a1]; decide) a2 (hT b (by omega) (by omega))
  obtain ⟨t1, t2, t3, t4, t5, t6⟩ := e.sm (t := b + 1) (by rw [a3.2.1]; decide) a3.2.2.2 (hT _ (by omega) (by omega))
  exact ⟨by rw [s1, s2]; exact a1, by rw [s1, s4]; exact a2, fld_ex a3 (by decide) e s1 s6 (hT _ (by omega) (by omega)), fld_ex a4 (by decide) e s1 s6 (hT _ (by omega) (by omega)), fun i hi => ⟨by rw [t1, t6, e.2.1 _ (hT _ (by omega) (by omega))]; exact (a5 i hi).1, (a5 i hi).2.ex e (hT _ (by omega) (by omega)) (hT _ (by omega) (by omega))⟩⟩
theorem LFg.ex (h : LFg κ R A) (e : Ex T κ I R A κ1 I1 R1 A1) (hO : κ.2.2 (A 12) = 12) (hT : ∀ t, t = 11 ∨ t = 12 ∨ t = 13 ∨ t = 14 ∨ (65 ≤ t ∧ t < 125) → ¬ T t) : LFg κ1 R1 A1 := by
  obtain ⟨a1, a2, ⟨a3, a4, a5, a6⟩, a7, a8⟩ := h
  obtain ⟨s1, s2, s3, s4, s5, s6⟩ := e.sm (t := 11) (by rw [a1]; decide) a2 (hT _ (by omega))
  obtain ⟨t1, t2, t3, t4, t5, t6⟩ := e.sm (t := 12) (by rw [a4]; decide) hO (hT _ (by omega))
  obtain ⟨b1, b2, b3, b4⟩ := fld_ex ⟨a3, a4, a5, hO⟩ (by decide) e s1 s6 (hT _ (by omega))
  exact ⟨by rw [s1, s2]; exact a1, by rw [s1, s4]; exact a2, ⟨b1, b2, b3, fun i hi => ⟨by rw [t1, t6, e.2.1 _ (hT _ (by omega))]; exact (a6 i hi).1, (a6 i hi).2.ex e (fun t h1 h2 => hT t (by omega))⟩⟩, fld_ex a7 (by decide) e s1 s6 (hT _ (by omega)), fld_ex a8 (by decide) e s1 s6 (hT _ (by omega))⟩
theorem LAg.ex (h : LAg κ R A) (e : Ex T κ I R A κ1 I1 R1 A1) (hO : κ.2.2 (A 5) = 5 ∧ κ.2.2 (A 6) = 6 ∧ κ.2.2 (A 7) = 7) (hT : ∀ t, t = 5 ∨ t = 6 ∨ t = 7 ∨ aT t → ¬ T t) : LAg κ1 R1 A1 := by
  obtain ⟨a1, ⟨a2, a3, a4, a5⟩, ⟨a6, a7, a8, a9⟩, a10⟩ := h
  obtain ⟨o5, o6, o7⟩ := hO
  obtain ⟨s1, s2, s3, s4, s5, s6⟩ := e.sm (t := 5) (by rw [a1]; decide) o5 (hT _ (by omega))
  obtain ⟨t1, t2, t3, t4, t5, t6⟩ := e.sm (t := 6) (by rw [a3]; decide) o6 (hT _ (by omega))
  obtain ⟨u1, u2, u3, u4, u5, u6⟩ := e.sm (t := 7) (by rw [a7]; decide) o7 (hT _ (by omega))
  obtain ⟨b1, b2, b3, b4⟩ := fld_ex ⟨a2, a3, a4, o6⟩ (by decide) e s1 s6 (hT _ (by omega))
  obtain ⟨d1, d2, d3, d4⟩ := fld_ex ⟨a6, a7, a8, o7⟩ (by decide) e s1 s6 (hT _ (by omega))
  exact ⟨by rw [s1, s2]; exact a1, ⟨b1, b2, b3, fun i hi => fld_ex (a5 i hi) (by decide) e t1 t6 (hT _ (Or.inr (Or.inr (Or.inr (aT20 hi)))))⟩, ⟨d1, d2, d3, fun i hi => fld_ex (a9 i hi) (by decide) e u1 u6 (hT _ (Or.inr (Or.inr (Or.inr (aT40 hi)))))⟩, fld_ex a10 (by decide) e s1 s6 (hT _ (Or.inr (Or.inr (Or.inr (Or.inl rfl)))))⟩
end
theorem dfX0 : ∀ j, j < 3 → defaultValue (tyX0 j) = fvz (ftz 0 j) (fun _ _ => 0) (fun _ _ => none) (fun _ _ => 0) 0 j := fun j hj => by
  rcases (show j = 0 ∨ j = 1 ∨ j = 2 by omega) with rfl | rfl | rfl <;> rfl
theorem dfX1 : ∀ j, j < 14 → defaultValue (tyX1 j) = fvz (ftz 1 j) (fun _ _ => 0) (fun _ _ => none) (fun _ _ => 0) 0 j := fun j hj => by
  rcases (show j = 0 ∨ j = 1 ∨ j = 2 ∨ j = 3 ∨ j = 4 ∨ j = 5 ∨ j = 6 ∨ j = 7 ∨ j = 8 ∨ j = 9 ∨ j = 10 ∨ j = 11 ∨ j = 12 ∨ j = 13 by omega) with rfl | rfl | rfl | rfl | rfl | rfl | rfl | rfl | rfl | rfl | rfl | rfl | rfl | rfl <;> rfl
theorem dfX2 : ∀ j, j < 7 → defaultValue (tyX2 j) = fvz (ftz 2 j) (fun _ _ => 0) (fun _ _ => none) (fun _ _ => 0) 0 j := fun j hj => by
  rcases (show j = 0 ∨ j = 1 ∨ j = 2 ∨ j = 3 ∨ j = 4 ∨ j = 5 ∨ j = 6 by omega) with rfl | rfl | rfl | rfl | rfl | rfl | rfl <;> rfl
theorem dfX3 : ∀ j, j < 2 → defaultValue (tyX3 j) = fvz (ftz 3 j) (fun _ _ => 0) (fun _ _ => none) (fun _ _ => 0) 0 j := fun j hj => by
  rcases (show j = 0 ∨ j = 1 by omega) with rfl | rfl <;> rfl
theorem dfX4 : ∀ j, j < 5 → defaultValue (tyX4 j) = fvz (ftz 4 j) (fun _ _ => 0) (fun _ _ => none) (fun _ _ => 0) 0 j := fun j hj => by
  rcases (show j = 0 ∨ j = 1 ∨ j = 2 ∨ j = 3 ∨ j = 4 by omega) with rfl | rfl | rfl | rfl | rfl <;> rfl
theorem dfX5 : ∀ j, j < 6 → defaultValue (tyX5 j) = fvz (ftz 5 j) (fun _ _ => 0) (fun _ _ => none) (fun _ _ => 0) 0 j := fun j hj => by
  rcases (show j = 0 ∨ j = 1 ∨ j = 2 ∨ j = 3 ∨ j = 4 ∨ j = 5 by omega) with rfl | rfl | rfl | rfl | rfl | rfl <;> rfl
theorem dfX6 : ∀ j, j < 3 → defaultValue (tyX6 j) = fvz (ftz 6 j) (fun _ _ => 0) (fun _ _ => none) (fun _ _ => 0) 0 j := fun j hj => by
  rcases (show j = 0 ∨ j = 1 ∨ j = 2 by omega) with rfl | rfl | rfl <;> rfl
theorem dfX7 : ∀ j, j < 14 → defaultValue (tyX7 j) = fvz (ftz 7 j) (fun _ _ => 0) (fun _ _ => none) (fun _ _ => 0) 0 j := fun j hj => by
  rcases (show j = 0 ∨ j = 1 ∨ j = 2 ∨ j = 3 ∨ j = 4 ∨ j = 5 ∨ j = 6 ∨ j = 7 ∨ j = 8 ∨ j = 9 ∨ j = 10 ∨ j = 11 ∨ j = 12 ∨ j = 13 by omega) with rfl | rfl | rfl | rfl | rfl | rfl | rfl | rfl | rfl | rfl | rfl | rfl | rfl | rfl <;> rfl
theorem dfX8 : ∀ j, j < 31 → defaultValue (tyX8 j) = fvz (ftz 8 j) (fun _ _ => 0) (fun _ _ => none) (fun _ _ => 0) 0 j := fun j hj => by
  rcases (show j = 0 ∨ j = 1 ∨ j = 2 ∨ j = 3 ∨ j = 4 ∨ j = 5 ∨ j = 6 ∨ j = 7 ∨ j = 8 ∨ j = 9 ∨ j = 10 ∨ j = 11 ∨ j = 12 ∨ j = 13 ∨ j = 14 ∨ j = 15 ∨ j = 16 ∨ j = 17 ∨ j = 18 ∨ j = 19 ∨ j = 20 ∨ j = 21 ∨ j = 22 ∨ j = 23 ∨ j = 24 ∨ j = 25 ∨ j = 26 ∨ j = 27 ∨ j = 28 ∨ j = 29 ∨ j = 30 by omega) with rfl | rfl | rfl | rfl | rfl | rfl | rfl | rfl | rfl | rfl | rfl | rfl | rfl | rfl | rfl | rfl | rfl | rfl | rfl | rfl | rfl | rfl | rfl | rfl | rfl | rfl | rfl | rfl | rfl | rfl | rfl <;> rfl
set_option maxHeartbeats 4000000 in
set_option maxRecDepth 100000 in
theorem cX6_init_ok (l : Launch) (g : Gz) (κ : Kz) (I : Iz) (R : Rz) (J : Jz) (A : Nat → Nat) (a b : Nat) (ha : A b = a) (hk : κ.1 a = 6) (ho : κ.2.2 a = b) (hI : I a = fun _ => 0) : Ct l mX6_init 1 12 g [.ref a] κ I R J (Sn (fun κ1 I1 R1 => ∃ A1, Ex (fun t => b ≤ t ∧ t < b + 2) κ I R A κ1 I1 R1 A1 ∧ A1 b = a ∧ LSg κ1 R1 A1 b ∧ ZC κ1 I1 A1 b (b + 2))) := by
  refine ct_of (by decide) (Nat.le_of_ble_eq_true rfl) ?_
  intro z hz hr hrc hrs
  have hz : Am z cX6_init RX6 1 1 := hz
  have hr : Rt z yX6_init none 1 12 _ := hr
  show V z 1 0 0 0 [(0, .ref a)] [] κ I R J
  have ob0 : Ob (fun t => b ≤ t ∧ t < b + 2) κ I R A a b 6 (fun _ => 0) [] κ I R A := Ob.st ha hk (by decide) ho hI (by omega)
  refine v_aload_n hz dX6_init_0 rfl ?_
  refine v_objInit hz (tg_mem 131 (by decide +kernel) rfl) (tg_mem 89 (by decide +kernel) rfl) (tg_mem 90 (by decide +kernel) rfl) (by decide) (Nat.le_of_ble_eq_true rfl) dX6_init_1 ?_
  refine v_aload_n hz dX6_init_4 rfl ?_
  refine v_bi (v := nI 12) hz dX6_init_5 (by decide) ?_
  refine v_newI hz (b + 1) A (by decide) ⟨by omega, by omega⟩ dX6_init_7 (fun q1 κ1 I1 R1 J1 A1 hw1 => ?_)
  obtain ⟨x11, x12, x13, x14, x15, x16, x17, x18⟩ := hw1
  have oc1 := ob0.ex x11 (fun t ht => by omega) (by omega) (by (try simp only [List.mem_cons, List.not_mem_nil, or_false, forall_eq_or_imp, forall_eq, false_implies, implies_true]); first | done | omega)
  have ka1 := oc1.2.2.1.2.1
  refine v_putR (f := 0) (ty := (.array .int)) hz hr rfl cl6 (by decide) rfl (by decide +kernel) rfl (tg_mem 132 (by decide +kernel) rfl) ka1 rfl rfl dX6_init_9 ?_
  have ob1 := oc1.put (f := 0) (k := 9) (n := 12) (t := b + 1) (by rw [x12]; exact x13) (by decide) (by rw [x12]; exact x14) (by rw [x12]; exact x15) (by rw [x12]; exact x16) (by omega) (by omega) (by (try simp only [List.mem_cons, List.not_mem_nil, or_false, forall_eq_or_imp, forall_eq, false_implies, implies_true]); first | done | omega)
  rw [x12] at ob1
  obtain ⟨e0, e1, ⟨e2, e3, e4, e5, e6⟩, e7⟩ := ob1
  obtain ⟨⟨f1, f2, f3, f4, f5⟩, f6, f7, f8⟩ := e7 (0, 9, 12, b + 1) (by simp)
  exact v_vret0 hz hr dX6_init_12 ⟨rfl, A1, e1, e2, ⟨by rw [e2]; exact e3, by rw [e2]; exact f1, f2, f3, by rw [e2]; exact e5, f4⟩, (ZC.one (by rw [e2, e3]; decide) (by rw [e2]; exact e5) (by rw [e2]; exact e6)).app (ZC.one (by rw [f2]; show (9 : Nat) < 15; decide) f4 f5)⟩
set_option maxHeartbeats 4000000 in
set_option maxRecDepth 100000 in
theorem cX4_init_ok (l : Launch) (g : Gz) (κ : Kz) (I : Iz) (R : Rz) (J : Jz) (A : Nat → Nat) (a : Nat) (ha : A 1 = a) (hk : κ.1 a = 4) (ho : κ.2.2 a = 1) (hI : I a = fun _ => 0) : Ct l mX4_init 1 48 g [.ref a] κ I R J (Sn (fun κ1 I1 R1 => ∃ A1, Ex (fun t => 1 ≤ t ∧ t < 3) κ I R A κ1 I1 R1 A1 ∧ A1 1 = a ∧ LPg κ1 R1 A1 ∧ ZC κ1 I1 A1 1 3)) := by
  refine ct_of (by decide) (Nat.le_of_ble_eq_true rfl) ?_
  intro z hz hr hrc hrs
  have hz : Am z cX4_init RX4 1 1 := hz
  have hr : Rt z yX4_init none 1 48 _ := hr
  show V z 1 0 0 0 [(0, .ref a)] [] κ I R J
  have ob0 : Ob (fun t => 1 ≤ t ∧ t < 3) κ I R A a 1 4 (fun _ => 0) [] κ I R A := Ob.st ha hk (by decide) ho hI (by omega)
  refine v_aload_n hz dX4_init_0 rfl ?_
  refine v_objInit hz (tg_mem 96 (by decide +kernel) rfl) (tg_mem 89 (by decide +kernel) rfl) (tg_mem 90 (by decide +kernel) rfl) (by decide) (Nat.le_of_ble_eq_true rfl) dX4_init_1 ?_
  refine v_aload_n hz dX4_init_4 rfl ?_
  refine v_bi (v := nI 48) hz dX4_init_5 (by decide) ?_
  refine v_newI hz (2) A (by decide) ⟨by omega, by omega⟩ dX4_init_7 (fun q1 κ1 I1 R1 J1 A1 hw1 => ?_)
  obtain ⟨x11, x12, x13, x14, x15, x16, x17, x18⟩ := hw1
  have oc1 := ob0.ex x11 (fun t ht => by omega) (by omega) (by (try simp only [List.mem_cons, List.not_mem_nil, or_false, forall_eq_or_imp, forall_eq, false_implies, implies_true]); first | done | omega)
  have ka1 := oc1.2.2.1.2.1
  refine v_putR (f := 0) (ty := (.array .int)) hz hr rfl cl4 (by decide) rfl (by decide +kernel) rfl (tg_mem 97 (by decide +kernel) rfl) ka1 rfl rfl dX4_init_9 ?_
  have ob1 := oc1.put (f := 0) (k := 9) (n := 48) (t := 2) (by rw [x12]; exact x13) (by decide) (by rw [x12]; exact x14) (by rw [x12]; exact x15) (by rw [x12]; exact x16) (by omega) (by omega) (by (try simp only [List.mem_cons, List.not_mem_nil, or_false, forall_eq_or_imp, forall_eq, false_implies, implies_true]); first | done | omega)
  rw [x12] at ob1
  obtain ⟨e0, e1, ⟨e2, e3, e4, e5, e6⟩, e7⟩ := ob1
  obtain ⟨⟨f1, f2, f3, f4, f5⟩, f6, f7, f8⟩ := e7 (0, 9, 48, 2) (by simp)
  exact v_vret0 hz hr dX4_init_12 ⟨rfl, A1, e1, e2, ⟨by rw [e2]; exact e3, by rw [e2]; exact f1, f2, f3, by rw [e2]; exact e5, f4⟩, (ZC.one (by rw [e2, e3]; decide) (by rw [e2]; exact e5) (by rw [e2]; exact e6)).app (ZC.one (by rw [f2]; show (9 : Nat) < 15; decide) f4 f5)⟩
set_option maxHeartbeats 4000000 in
set_option maxRecDepth 100000 in
theorem cX3_init_ok (l : Launch) (g : Gz) (κ : Kz) (I : Iz) (R : Rz) (J : Jz) (A : Nat → Nat) (a : Nat) (ha : A 3 = a) (hk : κ.1 a = 3) (ho : κ.2.2 a = 3) (hI : I a = fun _ => 0) : Ct l mX3_init 1 729 g [.ref a] κ I R J (Sn (fun κ1 I1 R1 => ∃ A1, Ex (fun t => 3 ≤ t ∧ t < 5) κ I R A κ1 I1 R1 A1 ∧ A1 3 = a ∧ LIg κ1 R1 A1 ∧ ZC κ1 I1 A1 3 5)) := by
  refine ct_of (by decide) (Nat.le_of_ble_eq_true rfl) ?_
  intro z hz hr hrc hrs
  have hz : Am z cX3_init RX3 1 1 := hz
  have hr : Rt z yX3_init none 1 729 _ := hr
  show V z 1 0 0 0 [(0, .ref a)] [] κ I R J
  have ob0 : Ob (fun t => 3 ≤ t ∧ t < 5) κ I R A a 3 3 (fun _ => 0) [] κ I R A := Ob.st ha hk (by decide) ho hI (by omega)
  refine v_aload_n hz dX3_init_0 rfl ?_
  refine v_objInit hz (tg_mem 180 (by decide +kernel) rfl) (tg_mem 89 (by decide +kernel) rfl) (tg_mem 90 (by decide +kernel) rfl) (by decide) (Nat.le_of_ble_eq_true rfl) dX3_init_1 ?_
  refine v_aload_n hz dX3_init_4 rfl ?_
  refine v_si (v := nI 729) hz dX3_init_5 (by decide) ?_
  refine v_newI hz (4) A (by decide) ⟨by omega, by omega⟩ dX3_init_8 (fun q1 κ1 I1 R1 J1 A1 hw1 => ?_)
  obtain ⟨x11, x12, x13, x14, x15, x16, x17, x18⟩ := hw1
  have oc1 := ob0.ex x11 (fun t ht => by omega) (by omega) (by (try simp only [List.mem_cons, List.not_mem_nil, or_false, forall_eq_or_imp, forall_eq, false_implies, implies_true]); first | done | omega)
  have ka1 := oc1.2.2.1.2.1
  refine v_putR (f := 0) (ty := (.array .int)) hz hr rfl cl3 (by decide) rfl (by decide +kernel) rfl (tg_mem 181 (by decide +kernel) rfl) ka1 rfl rfl dX3_init_10 ?_
  have ob1 := oc1.put (f := 0) (k := 9) (n := 729) (t := 4) (by rw [x12]; exact x13) (by decide) (by rw [x12]; exact x14) (by rw [x12]; exact x15) (by rw [x12]; exact x16) (by omega) (by omega) (by (try simp only [List.mem_cons, List.not_mem_nil, or_false, forall_eq_or_imp, forall_eq, false_implies, implies_true]); first | done | omega)
  rw [x12] at ob1
  obtain ⟨e0, e1, ⟨e2, e3, e4, e5, e6⟩, e7⟩ := ob1
  obtain ⟨⟨f1, f2, f3, f4, f5⟩, f6, f7, f8⟩ := e7 (0, 9, 729, 4) (by simp)
  exact v_vret0 hz hr dX3_init_13 ⟨rfl, A1, e1, e2, ⟨by rw [e2]; exact e3, by rw [e2]; exact e5, by rw [e2]; exact f1, f2, f3, f4⟩, (ZC.one (by rw [e2, e3]; decide) (by rw [e2]; exact e5) (by rw [e2]; exact e6)).app (ZC.one (by rw [f2]; show (9 : Nat) < 15; decide) f4 f5)⟩
set_option maxHeartbeats 4000000 in
set_option maxRecDepth 100000 in
theorem cX1_init_ok (l : Launch) (g : Gz) (κ : Kz) (I : Iz) (R : Rz) (J : Jz) (A : Nat → Nat) (a b : Nat) (ha : A b = a) (hk : κ.1 a = 1) (ho : κ.2.2 a = b) (hI : I a = fun _ => 0) : Ct l mX1_init 4 64 g [.ref a] κ I R J (Sn (fun κ1 I1 R1 => ∃ A1, Ex (fun t => b ≤ t ∧ t < b + 5) κ I R A κ1 I1 R1 A1 ∧ A1 b = a ∧ LCg κ1 R1 A1 b ∧ ZC κ1 I1 A1 b (b + 5))) := by
  refine ct_of (by decide) (Nat.le_of_ble_eq_true rfl) ?_
  intro z hz hr hrc hrs
  have hz : Am z cX1_init RX1 1 1 := hz
  have hr : Rt z yX1_init none 4 64 _ := hr
  show V z 1 0 0 0 [(0, .ref a)] [] κ I R J
  have ob0 : Ob (fun t => b ≤ t ∧ t < b + 5) κ I R A a b 1 (fun _ => 0) [] κ I R A := Ob.st ha hk (by decide) ho hI (by omega)
  refine v_aload_n hz dX1_init_0 rfl ?_
  refine v_objInit hz (tg_mem 212 (by decide +kernel) rfl) (tg_mem 89 (by decide +kernel) rfl) (tg_mem 90 (by decide +kernel) rfl) (by decide) (Nat.le_of_ble_eq_true rfl) dX1_init_1 ?_
  refine v_aload_n hz dX1_init_4 rfl ?_
  refine v_bi (v := nI 16) hz dX1_init_5 (by decide) ?_
  refine v_newI hz (b + 1) A (by decide) ⟨by omega, by omega⟩ dX1_init_7 (fun q1 κ1 I1 R1 J1 A1 hw1 => ?_)
  obtain ⟨x11, x12, x13, x14, x15, x16, x17, x18⟩ := hw1
  have oc1 := ob0.ex x11 (fun t ht => by omega) (by omega) (by (try simp only [List.mem_cons, List.not_mem_nil, or_false, forall_eq_or_imp, forall_eq, false_implies, implies_true]); first | done | omega)
  have ka1 := oc1.2.2.1.2.1
  refine v_putR (f := 0) (ty := (.array .int)) hz hr rfl cl1 (by decide) rfl (by decide +kernel) rfl (tg_mem 213 (by decide +kernel) rfl) ka1 rfl rfl dX1_init_9 ?_
  have ob1 := oc1.put (f := 0) (k := 9) (n := 16) (t := b + 1) (by rw [x12]; exact x13) (by decide) (by rw [x12]; exact x14) (by rw [x12]; exact x15) (by rw [x12]; exact x16) (by omega) (by omega) (by (try simp only [List.mem_cons, List.not_mem_nil, or_false, forall_eq_or_imp, forall_eq, false_implies, implies_true]); first | done | omega)
  rw [x12] at ob1
  refine v_aload_n hz dX1_init_12 rfl ?_
  refine v_bi (v := nI 16) hz dX1_init_13 (by decide) ?_
  refine v_newI hz (b + 2) A1 (by decide) ⟨by omega, by omega⟩ dX1_init_15 (fun q2 κ2 I2 R2 J2 A2 hw2 => ?_)
  obtain ⟨x21, x22, x23, x24, x25, x26, x27, x28⟩ := hw2
  have oc2 := ob1.ex x21 (fun t ht => by omega) (by omega) (by (try simp only [List.mem_cons, List.not_mem_nil, or_false, forall_eq_or_imp, forall_eq, false_implies, implies_true]); first | done | omega)
  have ka2 := oc2.2.2.1.2.1
  refine v_putR (f := 1) (ty := (.array .int)) hz hr rfl cl1 (by decide) rfl (by decide +kernel) rfl (tg_mem 215 (by decide +kernel) rfl) ka2 rfl rfl dX1_init_17 ?_
  have ob2 := oc2.put (f := 1) (k := 9) (n := 16) (t := b + 2) (by rw [x22]; exact x23) (by decide) (by rw [x22]; exact x24) (by rw [x22]; exact x25) (by rw [x22]; exact x26) (by omega) (by omega) (by (try simp only [List.mem_cons, List.not_mem_nil, or_false, forall_eq_or_imp, forall_eq, false_implies, implies_true]); first | done | omega)
  rw [x22] at ob2
  refine v_aload_n hz dX1_init_20 rfl ?_
  refine v_bi (v := nI 16) hz dX1_init_21 (by decide) ?_
  refine v_newI hz (b + 3) A2 (by decide) ⟨by omega, by omega⟩ dX1_init_23 (fun q3 κ3 I3 R3 J3 A3 hw3 => ?_)
  obtain ⟨x31, x32, x33, x34, x35, x36, x37, x38⟩ := hw3
  have oc3 := ob2.ex x31 (fun t ht => by omega) (by omega) (by (try simp only [List.mem_cons, List.not_mem_nil, or_false, forall_eq_or_imp, forall_eq, false_implies, implies_true]); first | done | omega)
  have ka3 := oc3.2.2.1.2.1
  refine v_putR (f := 2) (ty := (.array .int)) hz hr rfl cl1 (by decide) rfl (by decide +kernel) rfl (tg_mem 217 (by decide +kernel) rfl) ka3 rfl rfl dX1_init_25 ?_
  have ob3 := oc3.put (f := 2) (k := 9) (n := 16) (t := b + 3) (by rw [x32]; exact x33) (by decide) (by rw [x32]; exact x34) (by rw [x32]; exact x35) (by rw [x32]; exact x36) (by omega) (by omega) (by (try simp only [List.mem_cons, List.not_mem_nil, or_false, forall_eq_or_imp, forall_eq, false_implies, implies_true]); first | done | omega)
  rw [x32] at ob3
  refine v_aload_n hz dX1_init_28 rfl ?_
  refine v_bi (v := nI 16) hz dX1_init_29 (by decide) ?_
  refine v_newI hz (b + 4) A3 (by decide) ⟨by omega, by omega⟩ dX1_init_31 (fun q4 κ4 I4 R4 J4 A4 hw4 => ?_)
  obtain ⟨x41, x42, x43, x44, x45, x46, x47, x48⟩ := hw4
  have oc4 := ob3.ex x41 (fun t ht => by omega) (by omega) (by (try simp only [List.mem_cons, List.not_mem_nil, or_false, forall_eq_or_imp, forall_eq, false_implies, implies_true]); first | done | omega)
  have ka4 := oc4.2.2.1.2.1
  refine v_putR (f := 3) (ty := (.array .int)) hz hr rfl cl1 (by decide) rfl (by decide +kernel) rfl (tg_mem 218 (by decide +kernel) rfl) ka4 rfl rfl dX1_init_33 ?_
  have ob4 := oc4.put (f := 3) (k := 9) (n := 16) (t := b + 4) (by rw [x42]; exact x43) (by decide) (by rw [x42]; exact x44) (by rw [x42]; exact x45) (by rw [x42]; exact x46) (by omega) (by omega) (by (try simp only [List.mem_cons, List.not_mem_nil, or_false, forall_eq_or_imp, forall_eq, false_implies, implies_true]); first | done | omega)
  rw [x42] at ob4
  obtain ⟨e0, e1, ⟨e2, e3, e4, e5, e6⟩, e7⟩ := ob4
  obtain ⟨⟨f1, f2, f3, f4, f5⟩, -, -, -⟩ := e7 (0, 9, 16, b + 1) (by simp)
  obtain ⟨⟨g1, g2, g3, g4, g5⟩, -, -, -⟩ := e7 (1, 9, 16, b + 2) (by simp)
  obtain ⟨⟨h1, h2, h3, h4, h5⟩, -, -, -⟩ := e7 (2, 9, 16, b + 3) (by simp)
  obtain ⟨⟨i1, i2, i3, i4, i5⟩, -, -, -⟩ := e7 (3, 9, 16, b + 4) (by simp)
  exact v_vret0 hz hr dX1_init_36 ⟨rfl, A4, e1, e2, ⟨by rw [e2]; exact e3, by rw [e2]; exact e5, ⟨by rw [e2]; exact f1, f2, f3, f4⟩, ⟨by rw [e2]; exact g1, g2, g3, g4⟩, ⟨by rw [e2]; exact h1, h2, h3, h4⟩, ⟨by rw [e2]; exact i1, i2, i3, i4⟩⟩, ((((ZC.one (by rw [e2, e3]; decide) (by rw [e2]; exact e5) (by rw [e2]; exact e6)).app (ZC.one (by rw [f2]; show (9 : Nat) < 15; decide) f4 f5)).app (ZC.one (by rw [g2]; show (9 : Nat) < 15; decide) g4 g5)).app (ZC.one (by rw [h2]; show (9 : Nat) < 15; decide) h4 h5)).app (ZC.one (by rw [i2]; show (9 : Nat) < 15; decide) i4 i5)⟩
