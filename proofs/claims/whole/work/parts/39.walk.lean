/-! ===== the class: the steps ===== -/
theorem v_join {z : Zz} {nL k n pc : Nat} {lv : List (Nat × Value)} {st : List Value} {κ : Kz} {I : Iz} {R : Rz} {J : Jz} {x0 : Int32} (pcj : Nat) (q : Int32) (hb : V z nL k n pcj lv (.int q :: st) κ I R J → V z nL k n pc lv (.int x0 :: st) κ I R J) (hj : V z nL k n pcj lv (.int q :: st) κ I R J) : V z nL k n pc lv (.int x0 :: st) κ I R J := hb hj
theorem v_join2 {z : Zz} {nL k n pc : Nat} {lv : List (Nat × Value)} {st : List Value} {κ : Kz} {I : Iz} {R : Rz} {J : Jz} {x0 y0 : Int32} (pcj : Nat) (q : Int32) (hb : V z nL k n pcj lv (.int q :: st) κ I R J → V z nL k n pc lv (.int y0 :: .int x0 :: st) κ I R J) (hj : V z nL k n pcj lv (.int q :: st) κ I R J) : V z nL k n pc lv (.int y0 :: .int x0 :: st) κ I R J := hb hj
def ttg (w : Nat) (S T : Sg) (k : Nat) : Nat := sm (fun k' => if 0 < stc w S T k' ∧ (if knd w S T (pos w S T k').1 (pos w S T k').2 = 2 then T.2.1 (pos w S T k').2 = 0 else S.2.1 (pos w S T k').1 = 0) then 1 else 0) k
def cAr (I : Iz) (A : Nat → Nat) (b : Nat) (w : Nat) (S T : Sg) (k : Nat) : Prop := ∀ k', k' < k → I (A (b + 1)) k' = st0 w S T k' ∧ I (A (b + 2)) k' = st1 w S T k' ∧ I (A (b + 3)) k' = st2 w S T k' ∧ I (A (b + 4)) k' = st3 w S T k'
/-- a comparison's steps stand -/
def stpC (I : Iz) (A : Nat → Nat) (b : Nat) (w : Nat) (S T : Sg) (k : Nat) : Prop := isNs w S T k ∧ k ≤ S.1 + T.1 ∧ I (A b) 7 = nI k ∧ I (A b) 8 = nI (ttg w S T k) ∧ cAr I A b w S T k
/-- but for a comparison's cells all is as it was -/
def Fcb (A : Nat → Nat) (b : Nat) (I I1 : Iz) : Prop := ∀ a, (∀ t, b ≤ t → t < b + 5 → a ≠ A t) → I1 a = I a
theorem LCg.tag {κ : Kz} {R : Rz} {A : Nat → Nat} {b : Nat} (h : LCg κ R A b) {t : Nat} (h1 : b ≤ t) (h2 : t < b + 5) : κ.2.2 (A t) = t := by
  obtain ⟨-, a0, ⟨-, -, -, a1⟩, ⟨-, -, -, a2⟩, ⟨-, -, -, a3⟩, ⟨-, -, -, a4⟩⟩ := h
  rcases (show t = b ∨ t = b + 1 ∨ t = b + 2 ∨ t = b + 3 ∨ t = b + 4 by omega) with rfl | rfl | rfl | rfl | rfl <;> assumption
theorem Fcb.at {κ : Kz} {R : Rz} {A : Nat → Nat} {b : Nat} (hc : LCg κ R A b) {I I1 : Iz} (h : Fcb A b I I1) {x s : Nat} (hx : κ.2.2 x = s) (hs : s < b ∨ b + 5 ≤ s) : I1 x = I x := h x (fun t h1 h2 => tag_ne hx (hc.tag h1 h2) (by omega))
theorem Fcb.rf {A : Nat → Nat} {b : Nat} {I : Iz} : Fcb A b I I := fun _ _ => rfl
theorem Fcb.tr {A : Nat → Nat} {b : Nat} {I I1 I2 : Iz} (h : Fcb A b I I1) (h' : Fcb A b I1 I2) : Fcb A b I I2 := fun a ha => (h' a ha).trans (h a ha)
theorem Fcb.put {A : Nat → Nat} {b t k : Nat} {I I1 : Iz} {x : Int32} (h : Fcb A b I I1) (h1 : b ≤ t) (h2 : t < b + 5) : Fcb A b I (u2 I1 (A t) k x) := fun a ha => (u2_ne (ha t h1 h2)).trans (h a ha)
theorem csg.fc {κ : Kz} {R : Rz} {A : Nat → Nat} {cb : Nat} (hc : LCg κ R A cb) (hcb : cb + 5 ≤ 200) {I I1 : Iz} (h : Fcb A cb I I1) {b : Nat} {S : Sg} (hg : LGg κ R A b) (hb : 200 ≤ b) (hs : csg I A b S) : csg I1 A b S := by
  have e := h.at hc hg.2.1 (by omega)
  obtain ⟨h1, h2, h3, h4⟩ := hs
  refine ⟨h1, by rw [e]; exact h2, by rw [e]; exact h3, fun i hi => ?_⟩
  have ls := (hg.2.2.2.2 i (by omega)).2
  exact (h4 i hi).keep (h.at hc ls.2.2.2.2.1 (by omega)) (h.at hc ls.2.2.2.2.2 (by omega))
theorem cgr.fc {κ : Kz} {R : Rz} {A : Nat → Nat} {cb : Nat} (hc : LCg κ R A cb) (hcb : cb + 5 ≤ 200) {I I1 : Iz} (h : Fcb A cb I I1) {b n : Nat} {Gr : Nat → Nat} (hg : LGg κ R A b) (hb : 200 ≤ b) (hs : cgr I A b n Gr) : cgr I1 A b n Gr := hs.keep (by rw [h.at hc hg.2.1 (by omega)]) (h.at hc hg.2.2.2.1.2.2.2 (by omega))
/-- what a step that is added alters -/
theorem aS_all {κ : Kz} {R : Rz} {A : Nat → Nat} {b : Nat} (hc : LCg κ R A b) {I I1 : Iz} {k t c : Nat} {x0 x2 x3 : Int32} {q : Prop} [Decidable q] (e8 : I (A b) 8 = nI t) (h : I1 = if q ∧ 0 < c then u2 (u5 I A b k x0 (nI c) x2 x3) (A b) 8 (nI (t + 1)) else u5 I A b k x0 (nI c) x2 x3) :
    I1 (A b) 7 = nI (k + 1) ∧ I1 (A b) 8 = nI (if q ∧ 0 < c then t + 1 else t) ∧ (∀ f, f ≠ 7 → f ≠ 8 → I1 (A b) f = I (A b) f) ∧ Fcb A b I I1 ∧ (∀ j, I1 (A (b + 1)) j = if j = k then x0 else I (A (b + 1)) j) ∧ (∀ j, I1 (A (b + 2)) j = if j = k then nI c else I (A (b + 2)) j) ∧ (∀ j, I1 (A (b + 3)) j = if j = k then x2 else I (A (b + 3)) j) ∧ (∀ j, I1 (A (b + 4)) j = if j = k then x3 else I (A (b + 4)) j) := by
  have n1 : ∀ i j, i < 5 → j < 5 → i ≠ j → A (b + i) ≠ A (b + j) := fun i j h1 h2 h3 => tag_ne (hc.tag (by omega) (by omega)) (hc.tag (by omega) (by omega)) (by omega)
  have a01 := n1 0 1 (by decide) (by decide) (by decide)
  have a02 := n1 0 2 (by decide) (by decide) (by decide)
  have a03 := n1 0 3 (by decide) (by decide) (by decide)
  have a04 := n1 0 4 (by decide) (by decide) (by decide)
  have a12 := n1 1 2 (by decide) (by decide) (by decide)
  have a13 := n1 1 3 (by decide) (by decide) (by decide)
  have a14 := n1 1 4 (by decide) (by decide) (by decide)
  have a23 := n1 2 3 (by decide) (by decide) (by decide)
  have a24 := n1 2 4 (by decide) (by decide) (by decide)
  have a34 := n1 3 4 (by decide) (by decide) (by decide)
  simp only [Nat.add_zero] at a01 a02 a03 a04
  have f5 : Fcb A b I (u5 I A b k x0 (nI c) x2 x3) := by
    unfold u5
    exact (((((Fcb.rf (A := A) (b := b) (I := I)).put (by omega) (by omega)).put (by omega) (by omega)).put (by omega) (by omega)).put (by omega) (by omega)).put (Nat.le_refl b) (by omega)
  have g7 : (u5 I A b k x0 (nI c) x2 x3) (A b) 7 = nI (k + 1) := u2_eq
  have gf : ∀ f, f ≠ 7 → (u5 I A b k x0 (nI c) x2 x3) (A b) f = I (A b) f := fun f hf => by
    unfold u5
    rw [u2_at hf, u2_ne a04, u2_ne a03, u2_ne a02, u2_ne a01]
  have g1 : ∀ j, (u5 I A b k x0 (nI c) x2 x3) (A (b + 1)) j = if j = k then x0 else I (A (b + 1)) j := fun j => by
    unfold u5
    rw [u2_ne (Ne.symm a01), u2_ne a14, u2_ne a13, u2_ne a12, u2_row]
  have g2 : ∀ j, (u5 I A b k x0 (nI c) x2 x3) (A (b + 2)) j = if j = k then nI c else I (A (b + 2)) j := fun j => by
    unfold u5
    rw [u2_ne (Ne.symm a02), u2_ne a24, u2_ne a23, u2_row, u2_ne (Ne.symm a12)]
  have g3 : ∀ j, (u5 I A b k x0 (nI c) x2 x3) (A (b + 3)) j = if j = k then x2 else I (A (b + 3)) j := fun j => by
    unfold u5
    rw [u2_ne (Ne.symm a03), u2_ne a34, u2_row, u2_ne (Ne.symm a23), u2_ne (Ne.symm a13)]
  have g4 : ∀ j, (u5 I A b k x0 (nI c) x2 x3) (A (b + 4)) j = if j = k then x3 else I (A (b + 4)) j := fun j => by
    unfold u5
    rw [u2_ne (Ne.symm a04), u2_row, u2_ne (Ne.symm a34), u2_ne (Ne.symm a24), u2_ne (Ne.symm a14)]
  by_cases hq : q ∧ 0 < c
  · rw [if_pos hq] at h ⊢
    subst h
    refine ⟨by rw [u2_at (by decide)]; exact g7, u2_eq, fun f h1 h2 => by rw [u2_at h2]; exact gf f h1, f5.put (Nat.le_refl b) (by omega), fun j => by rw [u2_ne (Ne.symm a01)]; exact g1 j, fun j => by rw [u2_ne (Ne.symm a02)]; exact g2 j, fun j => by rw [u2_ne (Ne.symm a03)]; exact g3 j, fun j => by rw [u2_ne (Ne.symm a04)]; exact g4 j⟩
  · rw [if_neg hq] at h ⊢
    subst h
    exact ⟨g7, by rw [gf 8 (by decide)]; exact e8, fun f h1 h2 => gf f h1, f5, g1, g2, g3, g4⟩
theorem cAr.put {I I1 : Iz} {A : Nat → Nat} {b w : Nat} {S T : Sg} {k c : Nat} {x0 x2 x3 : Int32} (h : cAr I A b w S T k) (e : x0 = st0 w S T k ∧ nI c = st1 w S T k ∧ x2 = st2 w S T k ∧ x3 = st3 w S T k) (g1 : ∀ j, I1 (A (b + 1)) j = if j = k then x0 else I (A (b + 1)) j) (g2 : ∀ j, I1 (A (b + 2)) j = if j = k then nI c else I (A (b + 2)) j) (g3 : ∀ j, I1 (A (b + 3)) j = if j = k then x2 else I (A (b + 3)) j) (g4 : ∀ j, I1 (A (b + 4)) j = if j = k then x3 else I (A (b + 4)) j) : cAr I1 A b w S T (k + 1) := by
  intro j hj
  rw [g1, g2, g3, g4]
  by_cases q : j = k
  · subst q
    simp only [if_true]
    exact e
  · simp only [q, if_false]
    exact h j (by omega)
theorem tt_s {w : Nat} {S T : Sg} {k i j c : Nat} {q : Prop} [Decidable q] (hp : pos w S T k = (i, j)) (e0 : stc w S T k = c) (hq : q ↔ (if knd w S T i j = 2 then T.2.1 j = 0 else S.2.1 i = 0)) : (if q ∧ 0 < c then ttg w S T k + 1 else ttg w S T k) = ttg w S T (k + 1) := by
  have e : c = stc w S T k := e0.symm
  show _ = ttg w S T k + (if 0 < stc w S T k ∧ (if knd w S T (pos w S T k).1 (pos w S T k).2 = 2 then T.2.1 (pos w S T k).2 = 0 else S.2.1 (pos w S T k).1 = 0) then 1 else 0)
  rw [hp, ← e]
  dsimp only
  by_cases h1 : 0 < c
  · by_cases h2 : q
    · rw [if_pos ⟨h2, h1⟩, if_pos ⟨h1, hq.mp h2⟩]
    · rw [if_neg (fun r => h2 r.1), if_neg (fun r => h2 (hq.mpr r.2))]; rfl
  · rw [if_neg (fun r => h1 r.2), if_neg (fun r => h1 r.1)]; rfl
theorem sc0 {w : Nat} {S T : Sg} {k i j : Nat} (hp : pos w S T k = (i, j)) (h : knd w S T i j = 0) : stc w S T k = bcn 1000000 w S T i j := by simp [stc, hp, h]
theorem sc1 {w : Nat} {S T : Sg} {k i j : Nat} (hp : pos w S T k = (i, j)) (h : knd w S T i j = 1) : stc w S T k = cst w (S.2.1 i) := by simp [stc, hp, h]
theorem sc2 {w : Nat} {S T : Sg} {k i j : Nat} (hp : pos w S T k = (i, j)) (h : knd w S T i j = 2) : stc w S T k = cst w (T.2.1 j) := by simp [stc, hp, h]
set_option maxHeartbeats 4000000 in
set_option maxRecDepth 100000 in
theorem lp_X0_walk {z : Zz} {κ : Kz} {I0 : Iz} {R : Rz} {J : Jz} {A : Nat → Nat} (ha : LAg κ R A) (hz : Am z cX0_walkSteps RX0 10 2) {w b1 b2 cb : Nat} {S T : Sg} (hg1 : LGg κ R A b1) (hg2 : LGg κ R A b2) (hc : LCg κ R A cb) (hb1 : 200 ≤ b1) (hb2 : 200 ≤ b2) (hcb : 60 ≤ cb ∧ cb + 5 ≤ 200) (h1 : csg I0 A b1 S) (h2 : csg I0 A b2 T) (hw : w ≤ 20) (hbo : boF I0 A w S T (fun _ _ => True)) (hre : reF I0 A w S T (fun _ _ => True)) (hr : Rt z yX0_walkSteps none 0 0 (Sv κ R J (fun I1 => Fcb A cb I0 I1 ∧ (∀ f, f ≠ 7 → f ≠ 8 → I1 (A cb) f = I0 (A cb) f) ∧ ∃ k, stpC I1 A cb w S T k))) :
    ∀ (n k i j : Nat) (I : Iz), i ≤ S.1 → j ≤ T.1 → S.1 + T.1 + 1 ≤ i + j + n → k ≤ i + j → pos w S T k = (i, j) → (∀ k', k' < k → pos w S T k' ≠ (S.1, T.1)) → I (A cb) 7 = nI k → I (A cb) 8 = nI (ttg w S T k) → cAr I A cb w S T k → Fcb A cb I0 I → (∀ f, f ≠ 7 → f ≠ 8 → I (A cb) f = I0 (A cb) f) → V z 10 0 0 14 [(0, .ref (A 5)), (1, .ref (A b1)), (2, .ref (A b2)), (3, .int (nI w)), (4, .ref (A cb)), (5, .int (nI i)), (6, .int (nI j)), (7, .int (nI k))] [] κ I R J := by
  obtain ⟨hk, ⟨hR0, hK6, hN6, hrb⟩, ⟨hR1, hK7, hN7, hrr⟩, ⟨hR2, hK8, hN8, ho8⟩⟩ := id ha
  obtain ⟨sk, so, ⟨sR0, sK1, sN1, so1⟩, -, srow⟩ := id hg1
  obtain ⟨tk, to, ⟨tR0, tK1, tN1, to1⟩, -, trow⟩ := id hg2
  have hck := hc.1
  intro n
  induction n with
  | zero => intro k i j I hi hj hn; exact absurd hn (by omega)
  | succ n ih =>
  intro k i j I hi hj hn hkk hpos hns h7 h8 hA hF hO
  have g1 : csg I A b1 S := h1.fc hc hcb.2 hF hg1 hb1
  have g2 : csg I A b2 T := h2.fc hc hcb.2 hF hg2 hb2
  have hS := h1.1
  have hT := h2.1
  have rr : ∀ i, i < 9 → I (A (40 + i)) = I0 (A (40 + i)) := fun i hi => hF.at hc (ha.tag (aT40 hi)) (by omega)
  have bb : ∀ i, i < 8 → I (A (20 + i)) = I0 (A (20 + i)) := fun i hi => hF.at hc (ha.tag (aT20 hi)) (by omega)
  have p0 := pay_le hw hS hT i j
  have p1 := pay_le hw hS hT (i + 1) (j + 1)
  have p2 := pay_le hw hS hT (i + 1) j
  have p3 := cst_le (L := S.2.1 i) hw
  have p4 := cst_le (L := T.2.1 j) hw
  have pim : i < S.1 → T.1 ≤ j → cst w (S.2.1 i) + pay w S T (i + 1) j = pay w S T i j := fun a b => by rw [show j = T.1 by omega, pay_im a]; omega
  refine v_iload hz dX0_walkSteps_14 rfl ?_
  refine v_bi (v := nI 16) hz dX0_walkSteps_16 (by decide) ?_
  first | with_reducible refine v_icmp_geN hz 290 (by omega) (by omega) dX0_walkSteps_18 (by decide) (fun c18 => ?_) (fun c18 => ?_) | refine v_icmp_ge hz 290 dX0_walkSteps_18 (by decide) (fun c18 => ?_) (fun c18 => ?_)
  · exact v_vret hz hr dX0_walkSteps_290 ⟨hF, hO, k, ⟨by rw [hpos, show i = S.1 by omega, show j = T.1 by omega], hns⟩, by omega, h7, h8, hA⟩
  · refine v_iload hz dX0_walkSteps_21 rfl ?_
    refine v_aload_n hz dX0_walkSteps_23 rfl ?_
    refine v_getI hz fX0_74 (by assumption) dX0_walkSteps_24 ?_
    refine v_top g1.2.1 ?_
    refine v_join2 35 (bz (i < S.1)) (fun hj => ?_) ?_
    · first | with_reducible refine v_icmp_geN hz 34 (by omega) (by omega) dX0_walkSteps_27 (by decide) (fun c27 => ?_) (fun c27 => ?_) | refine v_icmp_ge hz 34 dX0_walkSteps_27 (by decide) (fun c27 => ?_) (fun c27 => ?_)
      · refine v_ic (v := nI 0) hz dX0_walkSteps_34 (by decide) ?_
        exact v_top (by first | exact (bz_t (by omega)).symm | exact (bz_f (by omega)).symm) hj
      · refine v_ic (v := nI 1) hz dX0_walkSteps_30 (by decide) ?_
        refine v_goto hz 35 dX0_walkSteps_31 (by decide) ?_
        exact v_top (by first | exact (bz_t (by omega)).symm | exact (bz_f (by omega)).symm) hj
    refine v_istore hz dX0_walkSteps_35 (by decide) rfl ?_
    refine v_iload hz dX0_walkSteps_37 rfl ?_
    refine v_aload_n hz dX0_walkSteps_39 rfl ?_
    refine v_getI hz fX0_74 (by assumption) dX0_walkSteps_40 ?_
    refine v_top g2.2.1 ?_
    refine v_join2 51 (bz (j < T.1)) (fun hj => ?_) ?_
    · first | with_reducible refine v_icmp_geN hz 50 (by omega) (by omega) dX0_walkSteps_43 (by decide) (fun c43 => ?_) (fun c43 => ?_) | refine v_icmp_ge hz 50 dX0_walkSteps_43 (by decide) (fun c43 => ?_) (fun c43 => ?_)
      · refine v_ic (v := nI 0) hz dX0_walkSteps_50 (by decide) ?_
        exact v_top (by first | exact (bz_t (by omega)).symm | exact (bz_f (by omega)).symm) hj
      · refine v_ic (v := nI 1) hz dX0_walkSteps_46 (by decide) ?_
        refine v_goto hz 51 dX0_walkSteps_47 (by decide) ?_
        exact v_top (by first | exact (bz_t (by omega)).symm | exact (bz_f (by omega)).symm) hj
    refine v_istore hz dX0_walkSteps_51 (by decide) rfl ?_
    refine v_iload hz dX0_walkSteps_53 rfl ?_
    first | with_reducible refine v_if_eqB hz 148 dX0_walkSteps_55 (by decide) (fun c55 => ?_) (fun c55 => ?_) | with_reducible refine v_if_eqN hz 148 (by omega) dX0_walkSteps_55 (by decide) (fun c55 => ?_) (fun c55 => ?_) | refine v_if_eq hz 148 dX0_walkSteps_55 (by decide) (fun c55 => ?_) (fun c55 => ?_)
    · refine v_iload hz dX0_walkSteps_148 rfl ?_
      first | with_reducible refine v_if_eqB hz 234 dX0_walkSteps_150 (by decide) (fun c150 => ?_) (fun c150 => ?_) | with_reducible refine v_if_eqN hz 234 (by omega) dX0_walkSteps_150 (by decide) (fun c150 => ?_) (fun c150 => ?_) | refine v_if_eq hz 234 dX0_walkSteps_150 (by decide) (fun c150 => ?_) (fun c150 => ?_)
      · first
        | (exfalso; omega)
        | (refine v_iload hz dX0_walkSteps_234 rfl ?_
           first | with_reducible refine v_if_eqB hz 283 dX0_walkSteps_236 (by decide) (fun c236 => ?_) (fun c236 => ?_) | with_reducible refine v_if_eqN hz 283 (by omega) dX0_walkSteps_236 (by decide) (fun c236 => ?_) (fun c236 => ?_) | refine v_if_eq hz 283 dX0_walkSteps_236 (by decide) (fun c236 => ?_) (fun c236 => ?_)
           · first
             | (exfalso; omega)
             | (exact v_vret hz hr dX0_walkSteps_283 ⟨hF, hO, k, ⟨by rw [hpos, show i = S.1 by omega, show j = T.1 by omega], hns⟩, by omega, h7, h8, hA⟩)
           · first
             | (exfalso; omega)
             | (refine v_aload hz dX0_walkSteps_239 rfl ?_
                refine v_ic (v := nI 2) hz dX0_walkSteps_241 (by decide) ?_
                refine v_aload_n hz dX0_walkSteps_242 rfl ?_
                refine v_getR hz fX0_77 (by assumption) (by assumption) dX0_walkSteps_243 ?_
                refine v_iload hz dX0_walkSteps_246 rfl ?_
                refine v_aaldN hz (by omega) (by assumption) (by omega) (by decide) (trow j (by omega)).1 dX0_walkSteps_248 ?_
                refine v_iload_n hz dX0_walkSteps_249 rfl ?_
                have hsk := (trow j (by omega)).2.1
                refine v_callVi hz lX0_96 (cX6_cost_ok _ _ _ _ _ _ A _ (trow j (by omega)).2 _ w (g2.2.2.2 j (by omega)).1 (g2.2.2.2 j (by omega)).2.1) (by assumption) rfl rfl (Nat.le_of_ble_eq_true rfl) (by decide) ⟨Nat.zero_le _, Nat.zero_le _⟩ dX0_walkSteps_250 (fun r I1 h250 => ?_)
                obtain ⟨rfl, rfl⟩ := h250
                refine v_ic (v := (-1)) hz dX0_walkSteps_253 (by decide) ?_
                refine v_iload hz dX0_walkSteps_254 rfl ?_
                refine v_aload_n hz dX0_walkSteps_256 rfl ?_
                refine v_getR hz fX0_77 (by assumption) (by assumption) dX0_walkSteps_257 ?_
                refine v_iload hz dX0_walkSteps_260 rfl ?_
                refine v_aaldN hz (by omega) (by assumption) (by omega) (by decide) (trow j (by omega)).1 dX0_walkSteps_262 ?_
                refine v_callVi hz lX0_85 (cX6_isWord_ok _ _ _ _ _ _ A _ (trow j (by omega)).2 (T.2.1 j) (g2.2.2.2 j (by omega)).1 (g2.2.2.2 j (by omega)).2.1) (by assumption) rfl rfl (Nat.le_of_ble_eq_true rfl) (by decide) ⟨Nat.zero_le _, Nat.zero_le _⟩ dX0_walkSteps_263 (fun r I1 h263 => ?_)
                obtain ⟨rfl, rfl⟩ := h263
                refine v_join 274 (bz (T.2.1 j = 0)) (fun hj => ?_) ?_
                · first | with_reducible refine v_if_neB hz 273 dX0_walkSteps_266 (by decide) (fun c266 => ?_) (fun c266 => ?_) | with_reducible refine v_if_neN hz 273 (by omega) dX0_walkSteps_266 (by decide) (fun c266 => ?_) (fun c266 => ?_) | refine v_if_ne hz 273 dX0_walkSteps_266 (by decide) (fun c266 => ?_) (fun c266 => ?_)
                  · refine v_ic (v := nI 0) hz dX0_walkSteps_273 (by decide) ?_
                    exact v_top (by first | exact (bz_t (by omega)).symm | exact (bz_f (by omega)).symm) hj
                  · refine v_ic (v := nI 1) hz dX0_walkSteps_269 (by decide) ?_
                    refine v_goto hz 274 dX0_walkSteps_270 (by decide) ?_
                    exact v_top (by first | exact (bz_t (by omega)).symm | exact (bz_f (by omega)).symm) hj
                refine v_callVv hz lX0_103 (cX1_addStep_ok _ _ _ _ _ _ A cb hc k (ttg w S T k) (cst w (T.2.1 j)) _ _ _ (T.2.1 j = 0) (by omega) (by omega) h7 h8) (by assumption) rfl rfl (Nat.le_of_ble_eq_true rfl) (by decide) ⟨Nat.zero_le _, Nat.zero_le _⟩ dX0_walkSteps_274 (fun I1 h274 => ?_)
                obtain ⟨y7, y8, yO, yF, y1, y2, y3, y4⟩ := aS_all hc h8 h274
                first | refine v_iincN hz 1 dX0_walkSteps_277 (by decide) rfl (by decide) rfl ?_ | refine v_iinc hz dX0_walkSteps_277 rfl (by decide) rfl ?_
                refine v_goto hz 284 dX0_walkSteps_280 (by decide) ?_
                first | refine v_iincN hz 1 dX0_walkSteps_284 (by decide) rfl (by decide) rfl ?_ | refine v_iinc hz dX0_walkSteps_284 rfl (by decide) rfl ?_
                refine v_goto hz 14 dX0_walkSteps_287 (by decide) ?_
                first | exact v_sub (ih (k + 1) (i + 1) (j + 1) _ (by omega) (by omega) (by omega) (by omega) (sv0 hpos (kn0 (by omega) (by omega) (Classical.not_not.mp c98).symm)).2 (fun q hq => by rcases Nat.lt_succ_iff_lt_or_eq.mp hq with e | e; exact hns q e; rw [e, hpos]; intro e2; have := congrArg Prod.fst e2; have := congrArg Prod.snd e2; simp only at *; omega) y7 (by rw [y8]; exact congrArg nI (tt_s hpos (sc0 hpos (kn0 (by omega) (by omega) (Classical.not_not.mp c98).symm)) (by rw [(kn0 (by omega) (by omega) (Classical.not_not.mp c98).symm)]; simp))) (hA.put (sv0 hpos (kn0 (by omega) (by omega) (Classical.not_not.mp c98).symm)).1 y1 y2 y3 y4) (hF.tr yF) (fun f f1 f2 => (yO f f1 f2).trans (hO f f1 f2))) ⟨rfl, rfl, rfl, rfl, rfl, rfl, rfl, rfl, trivial⟩ | exact v_sub (ih (k + 1) (i + 1) j _ (by omega) (by omega) (by omega) (by omega) (sv1 hpos (kn1 (fun q => c98 q.2.2.symm) (by omega) (Classical.not_not.mp c187).symm)).2 (fun q hq => by rcases Nat.lt_succ_iff_lt_or_eq.mp hq with e | e; exact hns q e; rw [e, hpos]; intro e2; have := congrArg Prod.fst e2; have := congrArg Prod.snd e2; simp only at *; omega) y7 (by rw [y8]; exact congrArg nI (tt_s hpos (sc1 hpos (kn1 (fun q => c98 q.2.2.symm) (by omega) (Classical.not_not.mp c187).symm)) (by rw [(kn1 (fun q => c98 q.2.2.symm) (by omega) (Classical.not_not.mp c187).symm)]; simp))) (hA.put (sv1 hpos (kn1 (fun q => c98 q.2.2.symm) (by omega) (Classical.not_not.mp c187).symm)).1 y1 y2 y3 y4) (hF.tr yF) (fun f f1 f2 => (yO f f1 f2).trans (hO f f1 f2))) ⟨rfl, rfl, rfl, rfl, rfl, rfl, rfl, rfl, trivial⟩ | exact v_sub (ih (k + 1) (i + 1) j _ (by omega) (by omega) (by omega) (by omega) (sv1 hpos (kn1 (fun q => absurd q.2.1 (by omega)) (by omega) (Classical.not_not.mp c187).symm)).2 (fun q hq => by rcases Nat.lt_succ_iff_lt_or_eq.mp hq with e | e; exact hns q e; rw [e, hpos]; intro e2; have := congrArg Prod.fst e2; have := congrArg Prod.snd e2; simp only at *; omega) y7 (by rw [y8]; exact congrArg nI (tt_s hpos (sc1 hpos (kn1 (fun q => absurd q.2.1 (by omega)) (by omega) (Classical.not_not.mp c187).symm)) (by rw [(kn1 (fun q => absurd q.2.1 (by omega)) (by omega) (Classical.not_not.mp c187).symm)]; simp))) (hA.put (sv1 hpos (kn1 (fun q => absurd q.2.1 (by omega)) (by omega) (Classical.not_not.mp c187).symm)).1 y1 y2 y3 y4) (hF.tr yF) (fun f f1 f2 => (yO f f1 f2).trans (hO f f1 f2))) ⟨rfl, rfl, rfl, rfl, rfl, rfl, rfl, rfl, trivial⟩ | exact v_sub (ih (k + 1) i (j + 1) _ (by omega) (by omega) (by omega) (by omega) (sv2 hpos (kn2 (fun q => c98 q.2.2.symm) (fun q => c187 q.2.symm))).2 (fun q hq => by rcases Nat.lt_succ_iff_lt_or_eq.mp hq with e | e; exact hns q e; rw [e, hpos]; intro e2; have := congrArg Prod.fst e2; have := congrArg Prod.snd e2; simp only at *; omega) y7 (by rw [y8]; exact congrArg nI (tt_s hpos (sc2 hpos (kn2 (fun q => c98 q.2.2.symm) (fun q => c187 q.2.symm))) (by rw [(kn2 (fun q => c98 q.2.2.symm) (fun q => c187 q.2.symm))]; simp))) (hA.put (sv2 hpos (kn2 (fun q => c98 q.2.2.symm) (fun q => c187 q.2.symm))).1 y1 y2 y3 y4) (hF.tr yF) (fun f f1 f2 => (yO f f1 f2).trans (hO f f1 f2))) ⟨rfl, rfl, rfl, rfl, rfl, rfl, rfl, rfl, trivial⟩ | exact v_sub (ih (k + 1) i (j + 1) _ (by omega) (by omega) (by omega) (by omega) (sv2 hpos (kn2 (fun q => c98 q.2.2.symm) (fun q => absurd q.1 (by omega)))).2 (fun q hq => by rcases Nat.lt_succ_iff_lt_or_eq.mp hq with e | e; exact hns q e; rw [e, hpos]; intro e2; have := congrArg Prod.fst e2; have := congrArg Prod.snd e2; simp only at *; omega) y7 (by rw [y8]; exact congrArg nI (tt_s hpos (sc2 hpos (kn2 (fun q => c98 q.2.2.symm) (fun q => absurd q.1 (by omega)))) (by rw [(kn2 (fun q => c98 q.2.2.symm) (fun q => absurd q.1 (by omega)))]; simp))) (hA.put (sv2 hpos (kn2 (fun q => c98 q.2.2.symm) (fun q => absurd q.1 (by omega)))).1 y1 y2 y3 y4) (hF.tr yF) (fun f f1 f2 => (yO f f1 f2).trans (hO f f1 f2))) ⟨rfl, rfl, rfl, rfl, rfl, rfl, rfl, rfl, trivial⟩ | exact v_sub (ih (k + 1) i (j + 1) _ (by omega) (by omega) (by omega) (by omega) (sv2 hpos (kn2 (fun q => absurd q.2.1 (by omega)) (fun q => c187 q.2.symm))).2 (fun q hq => by rcases Nat.lt_succ_iff_lt_or_eq.mp hq with e | e; exact hns q e; rw [e, hpos]; intro e2; have := congrArg Prod.fst e2; have := congrArg Prod.snd e2; simp only at *; omega) y7 (by rw [y8]; exact congrArg nI (tt_s hpos (sc2 hpos (kn2 (fun q => absurd q.2.1 (by omega)) (fun q => c187 q.2.symm))) (by rw [(kn2 (fun q => absurd q.2.1 (by omega)) (fun q => c187 q.2.symm))]; simp))) (hA.put (sv2 hpos (kn2 (fun q => absurd q.2.1 (by omega)) (fun q => c187 q.2.symm))).1 y1 y2 y3 y4) (hF.tr yF) (fun f f1 f2 => (yO f f1 f2).trans (hO f f1 f2))) ⟨rfl, rfl, rfl, rfl, rfl, rfl, rfl, rfl, trivial⟩ | exact v_sub (ih (k + 1) i (j + 1) _ (by omega) (by omega) (by omega) (by omega) (sv2 hpos (kn2 (fun q => absurd q.2.1 (by omega)) (fun q => absurd q.1 (by omega)))).2 (fun q hq => by rcases Nat.lt_succ_iff_lt_or_eq.mp hq with e | e; exact hns q e; rw [e, hpos]; intro e2; have := congrArg Prod.fst e2; have := congrArg Prod.snd e2; simp only at *; omega) y7 (by rw [y8]; exact congrArg nI (tt_s hpos (sc2 hpos (kn2 (fun q => absurd q.2.1 (by omega)) (fun q => absurd q.1 (by omega)))) (by rw [(kn2 (fun q => absurd q.2.1 (by omega)) (fun q => absurd q.1 (by omega)))]; simp))) (hA.put (sv2 hpos (kn2 (fun q => absurd q.2.1 (by omega)) (fun q => absurd q.1 (by omega)))).1 y1 y2 y3 y4) (hF.tr yF) (fun f f1 f2 => (yO f f1 f2).trans (hO f f1 f2))) ⟨rfl, rfl, rfl, rfl, rfl, rfl, rfl, rfl, trivial⟩ | exact v_sub (ih (k + 1) i (j + 1) _ (by omega) (by omega) (by omega) (by omega) (sv2 hpos (kn2 (fun q => absurd q.1 (by omega)) (fun q => c187 q.2.symm))).2 (fun q hq => by rcases Nat.lt_succ_iff_lt_or_eq.mp hq with e | e; exact hns q e; rw [e, hpos]; intro e2; have := congrArg Prod.fst e2; have := congrArg Prod.snd e2; simp only at *; omega) y7 (by rw [y8]; exact congrArg nI (tt_s hpos (sc2 hpos (kn2 (fun q => absurd q.1 (by omega)) (fun q => c187 q.2.symm))) (by rw [(kn2 (fun q => absurd q.1 (by omega)) (fun q => c187 q.2.symm))]; simp))) (hA.put (sv2 hpos (kn2 (fun q => absurd q.1 (by omega)) (fun q => c187 q.2.symm))).1 y1 y2 y3 y4) (hF.tr yF) (fun f f1 f2 => (yO f f1 f2).trans (hO f f1 f2))) ⟨rfl, rfl, rfl, rfl, rfl, rfl, rfl, rfl, trivial⟩ | exact v_sub (ih (k + 1) i (j + 1) _ (by omega) (by omega) (by omega) (by omega) (sv2 hpos (kn2 (fun q => absurd q.1 (by omega)) (fun q => absurd q.1 (by omega)))).2 (fun q hq => by rcases Nat.lt_succ_iff_lt_or_eq.mp hq with e | e; exact hns q e; rw [e, hpos]; intro e2; have := congrArg Prod.fst e2; have := congrArg Prod.snd e2; simp only at *; omega) y7 (by rw [y8]; exact congrArg nI (tt_s hpos (sc2 hpos (kn2 (fun q => absurd q.1 (by omega)) (fun q => absurd q.1 (by omega)))) (by rw [(kn2 (fun q => absurd q.1 (by omega)) (fun q => absurd q.1 (by omega)))]; simp))) (hA.put (sv2 hpos (kn2 (fun q => absurd q.1 (by omega)) (fun q => absurd q.1 (by omega)))).1 y1 y2 y3 y4) (hF.tr yF) (fun f f1 f2 => (yO f f1 f2).trans (hO f f1 f2))) ⟨rfl, rfl, rfl, rfl, rfl, rfl, rfl, rfl, trivial⟩))
      · first
        | (exfalso; omega)
        | (refine v_aload_n hz dX0_walkSteps_153 rfl ?_
           refine v_getR hz fX0_16 (by assumption) (by assumption) dX0_walkSteps_154 ?_
           refine v_iload hz dX0_walkSteps_157 rfl ?_
           refine v_aaldN hz (by omega) (by assumption) (by omega) (by decide) (hrr i (by omega)).1 dX0_walkSteps_159 ?_
           obtain ⟨-, raK, raN, raO⟩ := hrr i (by omega)
           refine v_iload hz dX0_walkSteps_160 rfl ?_
           refine v_ialdN hz (by assumption) (by assumption) (by omega) (by decide) dX0_walkSteps_162 ?_
           refine v_top (y := nI (pay w S T i j)) (by rw [rr i (by omega)]; exact hre i j (by omega) (by omega) trivial) ?_
           refine v_aload_n hz dX0_walkSteps_163 rfl ?_
           refine v_getR hz fX0_77 (by assumption) (by assumption) dX0_walkSteps_164 ?_
           refine v_iload hz dX0_walkSteps_167 rfl ?_
           refine v_aaldN hz (by omega) (by assumption) (by omega) (by decide) (srow i (by omega)).1 dX0_walkSteps_169 ?_
           refine v_iload_n hz dX0_walkSteps_170 rfl ?_
           have hsk := (srow i (by omega)).2.1
           refine v_callVi hz lX0_96 (cX6_cost_ok _ _ _ _ _ _ A _ (srow i (by omega)).2 _ w (g1.2.2.2 i (by omega)).1 (g1.2.2.2 i (by omega)).2.1) (by assumption) rfl rfl (Nat.le_of_ble_eq_true rfl) (by decide) ⟨Nat.zero_le _, Nat.zero_le _⟩ dX0_walkSteps_171 (fun r I1 h171 => ?_)
           obtain ⟨rfl, rfl⟩ := h171
           refine v_aload_n hz dX0_walkSteps_174 rfl ?_
           refine v_getR hz fX0_16 (by assumption) (by assumption) dX0_walkSteps_175 ?_
           refine v_iload hz dX0_walkSteps_178 rfl ?_
           refine v_ic (v := nI 1) hz dX0_walkSteps_180 (by decide) ?_
           first | with_reducible refine v_iaddN hz dX0_walkSteps_181 ?_ | refine v_iadd hz dX0_walkSteps_181 ?_
           refine v_aaldN hz (by omega) (by assumption) (by omega) (by decide) (hrr (i + 1) (by omega)).1 dX0_walkSteps_182 ?_
           obtain ⟨-, rcK, rcN, rcO⟩ := hrr (i + 1) (by omega)
           refine v_iload hz dX0_walkSteps_183 rfl ?_
           refine v_ialdN hz (by assumption) (by assumption) (by omega) (by decide) dX0_walkSteps_185 ?_
           refine v_top (y := nI (pay w S T (i + 1) j)) (by rw [rr (i + 1) (by omega)]; exact hre (i + 1) j (by omega) (by omega) trivial) ?_
           first | with_reducible refine v_iaddN hz dX0_walkSteps_186 ?_ | refine v_iadd hz dX0_walkSteps_186 ?_
           first | with_reducible refine v_icmp_neN hz 234 (by omega) (by omega) dX0_walkSteps_187 (by decide) (fun c187 => ?_) (fun c187 => ?_) | refine v_icmp_ne hz 234 dX0_walkSteps_187 (by decide) (fun c187 => ?_) (fun c187 => ?_)
           · first
             | (exfalso; omega)
             | (refine v_iload hz dX0_walkSteps_234 rfl ?_
                first | with_reducible refine v_if_eqB hz 283 dX0_walkSteps_236 (by decide) (fun c236 => ?_) (fun c236 => ?_) | with_reducible refine v_if_eqN hz 283 (by omega) dX0_walkSteps_236 (by decide) (fun c236 => ?_) (fun c236 => ?_) | refine v_if_eq hz 283 dX0_walkSteps_236 (by decide) (fun c236 => ?_) (fun c236 => ?_)
                · first
                  | (exfalso; omega)
                  | (exact v_vret hz hr dX0_walkSteps_283 ⟨hF, hO, k, ⟨by rw [hpos, show i = S.1 by omega, show j = T.1 by omega], hns⟩, by omega, h7, h8, hA⟩)
                · first
                  | (exfalso; omega)
                  | (refine v_aload hz dX0_walkSteps_239 rfl ?_
                     refine v_ic (v := nI 2) hz dX0_walkSteps_241 (by decide) ?_
                     refine v_aload_n hz dX0_walkSteps_242 rfl ?_
                     refine v_getR hz fX0_77 (by assumption) (by assumption) dX0_walkSteps_243 ?_
                     refine v_iload hz dX0_walkSteps_246 rfl ?_
                     refine v_aaldN hz (by omega) (by assumption) (by omega) (by decide) (trow j (by omega)).1 dX0_walkSteps_248 ?_
                     refine v_iload_n hz dX0_walkSteps_249 rfl ?_
                     have hsk := (trow j (by omega)).2.1
                     refine v_callVi hz lX0_96 (cX6_cost_ok _ _ _ _ _ _ A _ (trow j (by omega)).2 _ w (g2.2.2.2 j (by omega)).1 (g2.2.2.2 j (by omega)).2.1) (by assumption) rfl rfl (Nat.le_of_ble_eq_true rfl) (by decide) ⟨Nat.zero_le _, Nat.zero_le _⟩ dX0_walkSteps_250 (fun r I1 h250 => ?_)
                     obtain ⟨rfl, rfl⟩ := h250
                     refine v_ic (v := (-1)) hz dX0_walkSteps_253 (by decide) ?_
                     refine v_iload hz dX0_walkSteps_254 rfl ?_
                     refine v_aload_n hz dX0_walkSteps_256 rfl ?_
                     refine v_getR hz fX0_77 (by assumption) (by assumption) dX0_walkSteps_257 ?_
                     refine v_iload hz dX0_walkSteps_260 rfl ?_
                     refine v_aaldN hz (by omega) (by assumption) (by omega) (by decide) (trow j (by omega)).1 dX0_walkSteps_262 ?_
                     refine v_callVi hz lX0_85 (cX6_isWord_ok _ _ _ _ _ _ A _ (trow j (by omega)).2 (T.2.1 j) (g2.2.2.2 j (by omega)).1 (g2.2.2.2 j (by omega)).2.1) (by assumption) rfl rfl (Nat.le_of_ble_eq_true rfl) (by decide) ⟨Nat.zero_le _, Nat.zero_le _⟩ dX0_walkSteps_263 (fun r I1 h263 => ?_)
                     obtain ⟨rfl, rfl⟩ := h263
                     refine v_join 274 (bz (T.2.1 j = 0)) (fun hj => ?_) ?_
                     · first | with_reducible refine v_if_neB hz 273 dX0_walkSteps_266 (by decide) (fun c266 => ?_) (fun c266 => ?_) | with_reducible refine v_if_neN hz 273 (by omega) dX0_walkSteps_266 (by decide) (fun c266 => ?_) (fun c266 => ?_) | refine v_if_ne hz 273 dX0_walkSteps_266 (by decide) (fun c266 => ?_) (fun c266 => ?_)
                       · refine v_ic (v := nI 0) hz dX0_walkSteps_273 (by decide) ?_
                         exact v_top (by first | exact (bz_t (by omega)).symm | exact (bz_f (by omega)).symm) hj
                       · refine v_ic (v := nI 1) hz dX0_walkSteps_269 (by decide) ?_
                         refine v_goto hz 274 dX0_walkSteps_270 (by decide) ?_
                         exact v_top (by first | exact (bz_t (by omega)).symm | exact (bz_f (by omega)).symm) hj
                     refine v_callVv hz lX0_103 (cX1_addStep_ok _ _ _ _ _ _ A cb hc k (ttg w S T k) (cst w (T.2.1 j)) _ _ _ (T.2.1 j = 0) (by omega) (by omega) h7 h8) (by assumption) rfl rfl (Nat.le_of_ble_eq_true rfl) (by decide) ⟨Nat.zero_le _, Nat.zero_le _⟩ dX0_walkSteps_274 (fun I1 h274 => ?_)
                     obtain ⟨y7, y8, yO, yF, y1, y2, y3, y4⟩ := aS_all hc h8 h274
                     first | refine v_iincN hz 1 dX0_walkSteps_277 (by decide) rfl (by decide) rfl ?_ | refine v_iinc hz dX0_walkSteps_277 rfl (by decide) rfl ?_
                     refine v_goto hz 284 dX0_walkSteps_280 (by decide) ?_
                     first | refine v_iincN hz 1 dX0_walkSteps_284 (by decide) rfl (by decide) rfl ?_ | refine v_iinc hz dX0_walkSteps_284 rfl (by decide) rfl ?_
                     refine v_goto hz 14 dX0_walkSteps_287 (by decide) ?_
                     first | exact v_sub (ih (k + 1) (i + 1) (j + 1) _ (by omega) (by omega) (by omega) (by omega) (sv0 hpos (kn0 (by omega) (by omega) (Classical.not_not.mp c98).symm)).2 (fun q hq => by rcases Nat.lt_succ_iff_lt_or_eq.mp hq with e | e; exact hns q e; rw [e, hpos]; intro e2; have := congrArg Prod.fst e2; have := congrArg Prod.snd e2; simp only at *; omega) y7 (by rw [y8]; exact congrArg nI (tt_s hpos (sc0 hpos (kn0 (by omega) (by omega) (Classical.not_not.mp c98).symm)) (by rw [(kn0 (by omega) (by omega) (Classical.not_not.mp c98).symm)]; simp))) (hA.put (sv0 hpos (kn0 (by omega) (by omega) (Classical.not_not.mp c98).symm)).1 y1 y2 y3 y4) (hF.tr yF) (fun f f1 f2 => (yO f f1 f2).trans (hO f f1 f2))) ⟨rfl, rfl, rfl, rfl, rfl, rfl, rfl, rfl, trivial⟩ | exact v_sub (ih (k + 1) (i + 1) j _ (by omega) (by omega) (by omega) (by omega) (sv1 hpos (kn1 (fun q => c98 q.2.2.symm) (by omega) (Classical.not_not.mp c187).symm)).2 (fun q hq => by rcases Nat.lt_succ_iff_lt_or_eq.mp hq with e | e; exact hns q e; rw [e, hpos]; intro e2; have := congrArg Prod.fst e2; have := congrArg Prod.snd e2; simp only at *; omega) y7 (by rw [y8]; exact congrArg nI (tt_s hpos (sc1 hpos (kn1 (fun q => c98 q.2.2.symm) (by omega) (Classical.not_not.mp c187).symm)) (by rw [(kn1 (fun q => c98 q.2.2.symm) (by omega) (Classical.not_not.mp c187).symm)]; simp))) (hA.put (sv1 hpos (kn1 (fun q => c98 q.2.2.symm) (by omega) (Classical.not_not.mp c187).symm)).1 y1 y2 y3 y4) (hF.tr yF) (fun f f1 f2 => (yO f f1 f2).trans (hO f f1 f2))) ⟨rfl, rfl, rfl, rfl, rfl, rfl, rfl, rfl, trivial⟩ | exact v_sub (ih (k + 1) (i + 1) j _ (by omega) (by omega) (by omega) (by omega) (sv1 hpos (kn1 (fun q => absurd q.2.1 (by omega)) (by omega) (Classical.not_not.mp c187).symm)).2 (fun q hq => by rcases Nat.lt_succ_iff_lt_or_eq.mp hq with e | e; exact hns q e; rw [e, hpos]; intro e2; have := congrArg Prod.fst e2; have := congrArg Prod.snd e2; simp only at *; omega) y7 (by rw [y8]; exact congrArg nI (tt_s hpos (sc1 hpos (kn1 (fun q => absurd q.2.1 (by omega)) (by omega) (Classical.not_not.mp c187).symm)) (by rw [(kn1 (fun q => absurd q.2.1 (by omega)) (by omega) (Classical.not_not.mp c187).symm)]; simp))) (hA.put (sv1 hpos (kn1 (fun q => absurd q.2.1 (by omega)) (by omega) (Classical.not_not.mp c187).symm)).1 y1 y2 y3 y4) (hF.tr yF) (fun f f1 f2 => (yO f f1 f2).trans (hO f f1 f2))) ⟨rfl, rfl, rfl, rfl, rfl, rfl, rfl, rfl, trivial⟩ | exact v_sub (ih (k + 1) i (j + 1) _ (by omega) (by omega) (by omega) (by omega) (sv2 hpos (kn2 (fun q => c98 q.2.2.symm) (fun q => c187 q.2.symm))).2 (fun q hq => by rcases Nat.lt_succ_iff_lt_or_eq.mp hq with e | e; exact hns q e; rw [e, hpos]; intro e2; have := congrArg Prod.fst e2; have := congrArg Prod.snd e2; simp only at *; omega) y7 (by rw [y8]; exact congrArg nI (tt_s hpos (sc2 hpos (kn2 (fun q => c98 q.2.2.symm) (fun q => c187 q.2.symm))) (by rw [(kn2 (fun q => c98 q.2.2.symm) (fun q => c187 q.2.symm))]; simp))) (hA.put (sv2 hpos (kn2 (fun q => c98 q.2.2.symm) (fun q => c187 q.2.symm))).1 y1 y2 y3 y4) (hF.tr yF) (fun f f1 f2 => (yO f f1 f2).trans (hO f f1 f2))) ⟨rfl, rfl, rfl, rfl, rfl, rfl, rfl, rfl, trivial⟩ | exact v_sub (ih (k + 1) i (j + 1) _ (by omega) (by omega) (by omega) (by omega) (sv2 hpos (kn2 (fun q => c98 q.2.2.symm) (fun q => absurd q.1 (by omega)))).2 (fun q hq => by rcases Nat.lt_succ_iff_lt_or_eq.mp hq with e | e; exact hns q e; rw [e, hpos]; intro e2; have := congrArg Prod.fst e2; have := congrArg Prod.snd e2; simp only at *; omega) y7 (by rw [y8]; exact congrArg nI (tt_s hpos (sc2 hpos (kn2 (fun q => c98 q.2.2.symm) (fun q => absurd q.1 (by omega)))) (by rw [(kn2 (fun q => c98 q.2.2.symm) (fun q => absurd q.1 (by omega)))]; simp))) (hA.put (sv2 hpos (kn2 (fun q => c98 q.2.2.symm) (fun q => absurd q.1 (by omega)))).1 y1 y2 y3 y4) (hF.tr yF) (fun f f1 f2 => (yO f f1 f2).trans (hO f f1 f2))) ⟨rfl, rfl, rfl, rfl, rfl, rfl, rfl, rfl, trivial⟩ | exact v_sub (ih (k + 1) i (j + 1) _ (by omega) (by omega) (by omega) (by omega) (sv2 hpos (kn2 (fun q => absurd q.2.1 (by omega)) (fun q => c187 q.2.symm))).2 (fun q hq => by rcases Nat.lt_succ_iff_lt_or_eq.mp hq with e | e; exact hns q e; rw [e, hpos]; intro e2; have := congrArg Prod.fst e2; have := congrArg Prod.snd e2; simp only at *; omega) y7 (by rw [y8]; exact congrArg nI (tt_s hpos (sc2 hpos (kn2 (fun q => absurd q.2.1 (by omega)) (fun q => c187 q.2.symm))) (by rw [(kn2 (fun q => absurd q.2.1 (by omega)) (fun q => c187 q.2.symm))]; simp))) (hA.put (sv2 hpos (kn2 (fun q => absurd q.2.1 (by omega)) (fun q => c187 q.2.symm))).1 y1 y2 y3 y4) (hF.tr yF) (fun f f1 f2 => (yO f f1 f2).trans (hO f f1 f2))) ⟨rfl, rfl, rfl, rfl, rfl, rfl, rfl, rfl, trivial⟩ | exact v_sub (ih (k + 1) i (j + 1) _ (by omega) (by omega) (by omega) (by omega) (sv2 hpos (kn2 (fun q => absurd q.2.1 (by omega)) (fun q => absurd q.1 (by omega)))).2 (fun q hq => by rcases Nat.lt_succ_iff_lt_or_eq.mp hq with e | e; exact hns q e; rw [e, hpos]; intro e2; have := congrArg Prod.fst e2; have := congrArg Prod.snd e2; simp only at *; omega) y7 (by rw [y8]; exact congrArg nI (tt_s hpos (sc2 hpos (kn2 (fun q => absurd q.2.1 (by omega)) (fun q => absurd q.1 (by omega)))) (by rw [(kn2 (fun q => absurd q.2.1 (by omega)) (fun q => absurd q.1 (by omega)))]; simp))) (hA.put (sv2 hpos (kn2 (fun q => absurd q.2.1 (by omega)) (fun q => absurd q.1 (by omega)))).1 y1 y2 y3 y4) (hF.tr yF) (fun f f1 f2 => (yO f f1 f2).trans (hO f f1 f2))) ⟨rfl, rfl, rfl, rfl, rfl, rfl, rfl, rfl, trivial⟩ | exact v_sub (ih (k + 1) i (j + 1) _ (by omega) (by omega) (by omega) (by omega) (sv2 hpos (kn2 (fun q => absurd q.1 (by omega)) (fun q => c187 q.2.symm))).2 (fun q hq => by rcases Nat.lt_succ_iff_lt_or_eq.mp hq with e | e; exact hns q e; rw [e, hpos]; intro e2; have := congrArg Prod.fst e2; have := congrArg Prod.snd e2; simp only at *; omega) y7 (by rw [y8]; exact congrArg nI (tt_s hpos (sc2 hpos (kn2 (fun q => absurd q.1 (by omega)) (fun q => c187 q.2.symm))) (by rw [(kn2 (fun q => absurd q.1 (by omega)) (fun q => c187 q.2.symm))]; simp))) (hA.put (sv2 hpos (kn2 (fun q => absurd q.1 (by omega)) (fun q => c187 q.2.symm))).1 y1 y2 y3 y4) (hF.tr yF) (fun f f1 f2 => (yO f f1 f2).trans (hO f f1 f2))) ⟨rfl, rfl, rfl, rfl, rfl, rfl, rfl, rfl, trivial⟩ | exact v_sub (ih (k + 1) i (j + 1) _ (by omega) (by omega) (by omega) (by omega) (sv2 hpos (kn2 (fun q => absurd q.1 (by omega)) (fun q => absurd q.1 (by omega)))).2 (fun q hq => by rcases Nat.lt_succ_iff_lt_or_eq.mp hq with e | e; exact hns q e; rw [e, hpos]; intro e2; have := congrArg Prod.fst e2; have := congrArg Prod.snd e2; simp only at *; omega) y7 (by rw [y8]; exact congrArg nI (tt_s hpos (sc2 hpos (kn2 (fun q => absurd q.1 (by omega)) (fun q => absurd q.1 (by omega)))) (by rw [(kn2 (fun q => absurd q.1 (by omega)) (fun q => absurd q.1 (by omega)))]; simp))) (hA.put (sv2 hpos (kn2 (fun q => absurd q.1 (by omega)) (fun q => absurd q.1 (by omega)))).1 y1 y2 y3 y4) (hF.tr yF) (fun f f1 f2 => (yO f f1 f2).trans (hO f f1 f2))) ⟨rfl, rfl, rfl, rfl, rfl, rfl, rfl, rfl, trivial⟩))
           · first
             | (exfalso; omega)
             | (refine v_aload hz dX0_walkSteps_190 rfl ?_
                refine v_ic (v := nI 1) hz dX0_walkSteps_192 (by decide) ?_
                refine v_aload_n hz dX0_walkSteps_193 rfl ?_
                refine v_getR hz fX0_77 (by assumption) (by assumption) dX0_walkSteps_194 ?_
                refine v_iload hz dX0_walkSteps_197 rfl ?_
                refine v_aaldN hz (by omega) (by assumption) (by omega) (by decide) (srow i (by omega)).1 dX0_walkSteps_199 ?_
                refine v_iload_n hz dX0_walkSteps_200 rfl ?_
                refine v_callVi hz lX0_96 (cX6_cost_ok _ _ _ _ _ _ A _ (srow i (by omega)).2 _ w (g1.2.2.2 i (by omega)).1 (g1.2.2.2 i (by omega)).2.1) (by assumption) rfl rfl (Nat.le_of_ble_eq_true rfl) (by decide) ⟨Nat.zero_le _, Nat.zero_le _⟩ dX0_walkSteps_201 (fun r I1 h201 => ?_)
                obtain ⟨rfl, rfl⟩ := h201
                refine v_iload hz dX0_walkSteps_204 rfl ?_
                refine v_ic (v := (-1)) hz dX0_walkSteps_206 (by decide) ?_
                refine v_aload_n hz dX0_walkSteps_207 rfl ?_
                refine v_getR hz fX0_77 (by assumption) (by assumption) dX0_walkSteps_208 ?_
                refine v_iload hz dX0_walkSteps_211 rfl ?_
                refine v_aaldN hz (by omega) (by assumption) (by omega) (by decide) (srow i (by omega)).1 dX0_walkSteps_213 ?_
                refine v_callVi hz lX0_85 (cX6_isWord_ok _ _ _ _ _ _ A _ (srow i (by omega)).2 (S.2.1 i) (g1.2.2.2 i (by omega)).1 (g1.2.2.2 i (by omega)).2.1) (by assumption) rfl rfl (Nat.le_of_ble_eq_true rfl) (by decide) ⟨Nat.zero_le _, Nat.zero_le _⟩ dX0_walkSteps_214 (fun r I1 h214 => ?_)
                obtain ⟨rfl, rfl⟩ := h214
                refine v_join 225 (bz (S.2.1 i = 0)) (fun hj => ?_) ?_
                · first | with_reducible refine v_if_neB hz 224 dX0_walkSteps_217 (by decide) (fun c217 => ?_) (fun c217 => ?_) | with_reducible refine v_if_neN hz 224 (by omega) dX0_walkSteps_217 (by decide) (fun c217 => ?_) (fun c217 => ?_) | refine v_if_ne hz 224 dX0_walkSteps_217 (by decide) (fun c217 => ?_) (fun c217 => ?_)
                  · refine v_ic (v := nI 0) hz dX0_walkSteps_224 (by decide) ?_
                    exact v_top (by first | exact (bz_t (by omega)).symm | exact (bz_f (by omega)).symm) hj
                  · refine v_ic (v := nI 1) hz dX0_walkSteps_220 (by decide) ?_
                    refine v_goto hz 225 dX0_walkSteps_221 (by decide) ?_
                    exact v_top (by first | exact (bz_t (by omega)).symm | exact (bz_f (by omega)).symm) hj
                refine v_callVv hz lX0_103 (cX1_addStep_ok _ _ _ _ _ _ A cb hc k (ttg w S T k) (cst w (S.2.1 i)) _ _ _ (S.2.1 i = 0) (by omega) (by omega) h7 h8) (by assumption) rfl rfl (Nat.le_of_ble_eq_true rfl) (by decide) ⟨Nat.zero_le _, Nat.zero_le _⟩ dX0_walkSteps_225 (fun I1 h225 => ?_)
                obtain ⟨y7, y8, yO, yF, y1, y2, y3, y4⟩ := aS_all hc h8 h225
                first | refine v_iincN hz 1 dX0_walkSteps_228 (by decide) rfl (by decide) rfl ?_ | refine v_iinc hz dX0_walkSteps_228 rfl (by decide) rfl ?_
                refine v_goto hz 284 dX0_walkSteps_231 (by decide) ?_
                first | refine v_iincN hz 1 dX0_walkSteps_284 (by decide) rfl (by decide) rfl ?_ | refine v_iinc hz dX0_walkSteps_284 rfl (by decide) rfl ?_
                refine v_goto hz 14 dX0_walkSteps_287 (by decide) ?_
                first | exact v_sub (ih (k + 1) (i + 1) (j + 1) _ (by omega) (by omega) (by omega) (by omega) (sv0 hpos (kn0 (by omega) (by omega) (Classical.not_not.mp c98).symm)).2 (fun q hq => by rcases Nat.lt_succ_iff_lt_or_eq.mp hq with e | e; exact hns q e; rw [e, hpos]; intro e2; have := congrArg Prod.fst e2; have := congrArg Prod.snd e2; simp only at *; omega) y7 (by rw [y8]; exact congrArg nI (tt_s hpos (sc0 hpos (kn0 (by omega) (by omega) (Classical.not_not.mp c98).symm)) (by rw [(kn0 (by omega) (by omega) (Classical.not_not.mp c98).symm)]; simp))) (hA.put (sv0 hpos (kn0 (by omega) (by omega) (Classical.not_not.mp c98).symm)).1 y1 y2 y3 y4) (hF.tr yF) (fun f f1 f2 => (yO f f1 f2).trans (hO f f1 f2))) ⟨rfl, rfl, rfl, rfl, rfl, rfl, rfl, rfl, trivial⟩ | exact v_sub (ih (k + 1) (i + 1) j _ (by omega) (by omega) (by omega) (by omega) (sv1 hpos (kn1 (fun q => c98 q.2.2.symm) (by omega) (Classical.not_not.mp c187).symm)).2 (fun q hq => by rcases Nat.lt_succ_iff_lt_or_eq.mp hq with e | e; exact hns q e; rw [e, hpos]; intro e2; have := congrArg Prod.fst e2; have := congrArg Prod.snd e2; simp only at *; omega) y7 (by rw [y8]; exact congrArg nI (tt_s hpos (sc1 hpos (kn1 (fun q => c98 q.2.2.symm) (by omega) (Classical.not_not.mp c187).symm)) (by rw [(kn1 (fun q => c98 q.2.2.symm) (by omega) (Classical.not_not.mp c187).symm)]; simp))) (hA.put (sv1 hpos (kn1 (fun q => c98 q.2.2.symm) (by omega) (Classical.not_not.mp c187).symm)).1 y1 y2 y3 y4) (hF.tr yF) (fun f f1 f2 => (yO f f1 f2).trans (hO f f1 f2))) ⟨rfl, rfl, rfl, rfl, rfl, rfl, rfl, rfl, trivial⟩ | exact v_sub (ih (k + 1) (i + 1) j _ (by omega) (by omega) (by omega) (by omega) (sv1 hpos (kn1 (fun q => absurd q.2.1 (by omega)) (by omega) (Classical.not_not.mp c187).symm)).2 (fun q hq => by rcases Nat.lt_succ_iff_lt_or_eq.mp hq with e | e; exact hns q e; rw [e, hpos]; intro e2; have := congrArg Prod.fst e2; have := congrArg Prod.snd e2; simp only at *; omega) y7 (by rw [y8]; exact congrArg nI (tt_s hpos (sc1 hpos (kn1 (fun q => absurd q.2.1 (by omega)) (by omega) (Classical.not_not.mp c187).symm)) (by rw [(kn1 (fun q => absurd q.2.1 (by omega)) (by omega) (Classical.not_not.mp c187).symm)]; simp))) (hA.put (sv1 hpos (kn1 (fun q => absurd q.2.1 (by omega)) (by omega) (Classical.not_not.mp c187).symm)).1 y1 y2 y3 y4) (hF.tr yF) (fun f f1 f2 => (yO f f1 f2).trans (hO f f1 f2))) ⟨rfl, rfl, rfl, rfl, rfl, rfl, rfl, rfl, trivial⟩ | exact v_sub (ih (k + 1) i (j + 1) _ (by omega) (by omega) (by omega) (by omega) (sv2 hpos (kn2 (fun q => c98 q.2.2.symm) (fun q => c187 q.2.symm))).2 (fun q hq => by rcases Nat.lt_succ_iff_lt_or_eq.mp hq with e | e; exact hns q e; rw [e, hpos]; intro e2; have := congrArg Prod.fst e2; have := congrArg Prod.snd e2; simp only at *; omega) y7 (by rw [y8]; exact congrArg nI (tt_s hpos (sc2 hpos (kn2 (fun q => c98 q.2.2.symm) (fun q => c187 q.2.symm))) (by rw [(kn2 (fun q => c98 q.2.2.symm) (fun q => c187 q.2.symm))]; simp))) (hA.put (sv2 hpos (kn2 (fun q => c98 q.2.2.symm) (fun q => c187 q.2.symm))).1 y1 y2 y3 y4) (hF.tr yF) (fun f f1 f2 => (yO f f1 f2).trans (hO f f1 f2))) ⟨rfl, rfl, rfl, rfl, rfl, rfl, rfl, rfl, trivial⟩ | exact v_sub (ih (k + 1) i (j + 1) _ (by omega) (by omega) (by omega) (by omega) (sv2 hpos (kn2 (fun q => c98 q.2.2.symm) (fun q => absurd q.1 (by omega)))).2 (fun q hq => by rcases Nat.lt_succ_iff_lt_or_eq.mp hq with e | e; exact hns q e; rw [e, hpos]; intro e2; have := congrArg Prod.fst e2; have := congrArg Prod.snd e2; simp only at *; omega) y7 (by rw [y8]; exact congrArg nI (tt_s hpos (sc2 hpos (kn2 (fun q => c98 q.2.2.symm) (fun q => absurd q.1 (by omega)))) (by rw [(kn2 (fun q => c98 q.2.2.symm) (fun q => absurd q.1 (by omega)))]; simp))) (hA.put (sv2 hpos (kn2 (fun q => c98 q.2.2.symm) (fun q => absurd q.1 (by omega)))).1 y1 y2 y3 y4) (hF.tr yF) (fun f f1 f2 => (yO f f1 f2).trans (hO f f1 f2))) ⟨rfl, rfl, rfl, rfl, rfl, rfl, rfl, rfl, trivial⟩ | exact v_sub (ih (k + 1) i (j + 1) _ (by omega) (by omega) (by omega) (by omega) (sv2 hpos (kn2 (fun q => absurd q.2.1 (by omega)) (fun q => c187 q.2.symm))).2 (fun q hq => by rcases Nat.lt_succ_iff_lt_or_eq.mp hq with e | e; exact hns q e; rw [e, hpos]; intro e2; have := congrArg Prod.fst e2; have := congrArg Prod.snd e2; simp only at *; omega) y7 (by rw [y8]; exact congrArg nI (tt_s hpos (sc2 hpos (kn2 (fun q => absurd q.2.1 (by omega)) (fun q => c187 q.2.symm))) (by rw [(kn2 (fun q => absurd q.2.1 (by omega)) (fun q => c187 q.2.symm))]; simp))) (hA.put (sv2 hpos (kn2 (fun q => absurd q.2.1 (by omega)) (fun q => c187 q.2.symm))).1 y1 y2 y3 y4) (hF.tr yF) (fun f f1 f2 => (yO f f1 f2).trans (hO f f1 f2))) ⟨rfl, rfl, rfl, rfl, rfl, rfl, rfl, rfl, trivial⟩ | exact v_sub (ih (k + 1) i (j + 1) _ (by omega) (by omega) (by omega) (by omega) (sv2 hpos (kn2 (fun q => absurd q.2.1 (by omega)) (fun q => absurd q.1 (by omega)))).2 (fun q hq => by rcases Nat.lt_succ_iff_lt_or_eq.mp hq with e | e; exact hns q e; rw [e, hpos]; intro e2; have := congrArg Prod.fst e2; have := congrArg Prod.snd e2; simp only at *; omega) y7 (by rw [y8]; exact congrArg nI (tt_s hpos (sc2 hpos (kn2 (fun q => absurd q.2.1 (by omega)) (fun q => absurd q.1 (by omega)))) (by rw [(kn2 (fun q => absurd q.2.1 (by omega)) (fun q => absurd q.1 (by omega)))]; simp))) (hA.put (sv2 hpos (kn2 (fun q => absurd q.2.1 (by omega)) (fun q => absurd q.1 (by omega)))).1 y1 y2 y3 y4) (hF.tr yF) (fun f f1 f2 => (yO f f1 f2).trans (hO f f1 f2))) ⟨rfl, rfl, rfl, rfl, rfl, rfl, rfl, rfl, trivial⟩ | exact v_sub (ih (k + 1) i (j + 1) _ (by omega) (by omega) (by omega) (by omega) (sv2 hpos (kn2 (fun q => absurd q.1 (by omega)) (fun q => c187 q.2.symm))).2 (fun q hq => by rcases Nat.lt_succ_iff_lt_or_eq.mp hq with e | e; exact hns q e; rw [e, hpos]; intro e2; have := congrArg Prod.fst e2; have := congrArg Prod.snd e2; simp only at *; omega) y7 (by rw [y8]; exact congrArg nI (tt_s hpos (sc2 hpos (kn2 (fun q => absurd q.1 (by omega)) (fun q => c187 q.2.symm))) (by rw [(kn2 (fun q => absurd q.1 (by omega)) (fun q => c187 q.2.symm))]; simp))) (hA.put (sv2 hpos (kn2 (fun q => absurd q.1 (by omega)) (fun q => c187 q.2.symm))).1 y1 y2 y3 y4) (hF.tr yF) (fun f f1 f2 => (yO f f1 f2).trans (hO f f1 f2))) ⟨rfl, rfl, rfl, rfl, rfl, rfl, rfl, rfl, trivial⟩ | exact v_sub (ih (k + 1) i (j + 1) _ (by omega) (by omega) (by omega) (by omega) (sv2 hpos (kn2 (fun q => absurd q.1 (by omega)) (fun q => absurd q.1 (by omega)))).2 (fun q hq => by rcases Nat.lt_succ_iff_lt_or_eq.mp hq with e | e; exact hns q e; rw [e, hpos]; intro e2; have := congrArg Prod.fst e2; have := congrArg Prod.snd e2; simp only at *; omega) y7 (by rw [y8]; exact congrArg nI (tt_s hpos (sc2 hpos (kn2 (fun q => absurd q.1 (by omega)) (fun q => absurd q.1 (by omega)))) (by rw [(kn2 (fun q => absurd q.1 (by omega)) (fun q => absurd q.1 (by omega)))]; simp))) (hA.put (sv2 hpos (kn2 (fun q => absurd q.1 (by omega)) (fun q => absurd q.1 (by omega)))).1 y1 y2 y3 y4) (hF.tr yF) (fun f f1 f2 => (yO f f1 f2).trans (hO f f1 f2))) ⟨rfl, rfl, rfl, rfl, rfl, rfl, rfl, rfl, trivial⟩))
    · refine v_iload hz dX0_walkSteps_58 rfl ?_
      first | with_reducible refine v_if_eqB hz 148 dX0_walkSteps_60 (by decide) (fun c60 => ?_) (fun c60 => ?_) | with_reducible refine v_if_eqN hz 148 (by omega) dX0_walkSteps_60 (by decide) (fun c60 => ?_) (fun c60 => ?_) | refine v_if_eq hz 148 dX0_walkSteps_60 (by decide) (fun c60 => ?_) (fun c60 => ?_)
      · refine v_iload hz dX0_walkSteps_148 rfl ?_
        first | with_reducible refine v_if_eqB hz 234 dX0_walkSteps_150 (by decide) (fun c150 => ?_) (fun c150 => ?_) | with_reducible refine v_if_eqN hz 234 (by omega) dX0_walkSteps_150 (by decide) (fun c150 => ?_) (fun c150 => ?_) | refine v_if_eq hz 234 dX0_walkSteps_150 (by decide) (fun c150 => ?_) (fun c150 => ?_)
        · first
          | (exfalso; omega)
          | (refine v_iload hz dX0_walkSteps_234 rfl ?_
             first | with_reducible refine v_if_eqB hz 283 dX0_walkSteps_236 (by decide) (fun c236 => ?_) (fun c236 => ?_) | with_reducible refine v_if_eqN hz 283 (by omega) dX0_walkSteps_236 (by decide) (fun c236 => ?_) (fun c236 => ?_) | refine v_if_eq hz 283 dX0_walkSteps_236 (by decide) (fun c236 => ?_) (fun c236 => ?_)
             · first
               | (exfalso; omega)
               | (exact v_vret hz hr dX0_walkSteps_283 ⟨hF, hO, k, ⟨by rw [hpos, show i = S.1 by omega, show j = T.1 by omega], hns⟩, by omega, h7, h8, hA⟩)
             · first
               | (exfalso; omega)
               | (refine v_aload hz dX0_walkSteps_239 rfl ?_
                  refine v_ic (v := nI 2) hz dX0_walkSteps_241 (by decide) ?_
                  refine v_aload_n hz dX0_walkSteps_242 rfl ?_
                  refine v_getR hz fX0_77 (by assumption) (by assumption) dX0_walkSteps_243 ?_
                  refine v_iload hz dX0_walkSteps_246 rfl ?_
                  refine v_aaldN hz (by omega) (by assumption) (by omega) (by decide) (trow j (by omega)).1 dX0_walkSteps_248 ?_
                  refine v_iload_n hz dX0_walkSteps_249 rfl ?_
                  have hsk := (trow j (by omega)).2.1
                  refine v_callVi hz lX0_96 (cX6_cost_ok _ _ _ _ _ _ A _ (trow j (by omega)).2 _ w (g2.2.2.2 j (by omega)).1 (g2.2.2.2 j (by omega)).2.1) (by assumption) rfl rfl (Nat.le_of_ble_eq_true rfl) (by decide) ⟨Nat.zero_le _, Nat.zero_le _⟩ dX0_walkSteps_250 (fun r I1 h250 => ?_)
                  obtain ⟨rfl, rfl⟩ := h250
                  refine v_ic (v := (-1)) hz dX0_walkSteps_253 (by decide) ?_
                  refine v_iload hz dX0_walkSteps_254 rfl ?_
                  refine v_aload_n hz dX0_walkSteps_256 rfl ?_
                  refine v_getR hz fX0_77 (by assumption) (by assumption) dX0_walkSteps_257 ?_
                  refine v_iload hz dX0_walkSteps_260 rfl ?_
                  refine v_aaldN hz (by omega) (by assumption) (by omega) (by decide) (trow j (by omega)).1 dX0_walkSteps_262 ?_
                  refine v_callVi hz lX0_85 (cX6_isWord_ok _ _ _ _ _ _ A _ (trow j (by omega)).2 (T.2.1 j) (g2.2.2.2 j (by omega)).1 (g2.2.2.2 j (by omega)).2.1) (by assumption) rfl rfl (Nat.le_of_ble_eq_true rfl) (by decide) ⟨Nat.zero_le _, Nat.zero_le _⟩ dX0_walkSteps_263 (fun r I1 h263 => ?_)
                  obtain ⟨rfl, rfl⟩ := h263
                  refine v_join 274 (bz (T.2.1 j = 0)) (fun hj => ?_) ?_
                  · first | with_reducible refine v_if_neB hz 273 dX0_walkSteps_266 (by decide) (fun c266 => ?_) (fun c266 => ?_) | with_reducible refine v_if_neN hz 273 (by omega) dX0_walkSteps_266 (by decide) (fun c266 => ?_) (fun c266 => ?_) | refine v_if_ne hz 273 dX0_walkSteps_266 (by decide) (fun c266 => ?_) (fun c266 => ?_)
                    · refine v_ic (v := nI 0) hz dX0_walkSteps_273 (by decide) ?_
                      exact v_top (by first | exact (bz_t (by omega)).symm | exact (bz_f (by omega)).symm) hj
                    · refine v_ic (v := nI 1) hz dX0_walkSteps_269 (by decide) ?_
                      refine v_goto hz 274 dX0_walkSteps_270 (by decide) ?_
                      exact v_top (by first | exact (bz_t (by omega)).symm | exact (bz_f (by omega)).symm) hj
                  refine v_callVv hz lX0_103 (cX1_addStep_ok _ _ _ _ _ _ A cb hc k (ttg w S T k) (cst w (T.2.1 j)) _ _ _ (T.2.1 j = 0) (by omega) (by omega) h7 h8) (by assumption) rfl rfl (Nat.le_of_ble_eq_true rfl) (by decide) ⟨Nat.zero_le _, Nat.zero_le _⟩ dX0_walkSteps_274 (fun I1 h274 => ?_)
                  obtain ⟨y7, y8, yO, yF, y1, y2, y3, y4⟩ := aS_all hc h8 h274
                  first | refine v_iincN hz 1 dX0_walkSteps_277 (by decide) rfl (by decide) rfl ?_ | refine v_iinc hz dX0_walkSteps_277 rfl (by decide) rfl ?_
                  refine v_goto hz 284 dX0_walkSteps_280 (by decide) ?_
                  first | refine v_iincN hz 1 dX0_walkSteps_284 (by decide) rfl (by decide) rfl ?_ | refine v_iinc hz dX0_walkSteps_284 rfl (by decide) rfl ?_
                  refine v_goto hz 14 dX0_walkSteps_287 (by decide) ?_
                  first | exact v_sub (ih (k + 1) (i + 1) (j + 1) _ (by omega) (by omega) (by omega) (by omega) (sv0 hpos (kn0 (by omega) (by omega) (Classical.not_not.mp c98).symm)).2 (fun q hq => by rcases Nat.lt_succ_iff_lt_or_eq.mp hq with e | e; exact hns q e; rw [e, hpos]; intro e2; have := congrArg Prod.fst e2; have := congrArg Prod.snd e2; simp only at *; omega) y7 (by rw [y8]; exact congrArg nI (tt_s hpos (sc0 hpos (kn0 (by omega) (by omega) (Classical.not_not.mp c98).symm)) (by rw [(kn0 (by omega) (by omega) (Classical.not_not.mp c98).symm)]; simp))) (hA.put (sv0 hpos (kn0 (by omega) (by omega) (Classical.not_not.mp c98).symm)).1 y1 y2 y3 y4) (hF.tr yF) (fun f f1 f2 => (yO f f1 f2).trans (hO f f1 f2))) ⟨rfl, rfl, rfl, rfl, rfl, rfl, rfl, rfl, trivial⟩ | exact v_sub (ih (k + 1) (i + 1) j _ (by omega) (by omega) (by omega) (by omega) (sv1 hpos (kn1 (fun q => c98 q.2.2.symm) (by omega) (Classical.not_not.mp c187).symm)).2 (fun q hq => by rcases Nat.lt_succ_iff_lt_or_eq.mp hq with e | e; exact hns q e; rw [e, hpos]; intro e2; have := congrArg Prod.fst e2; have := congrArg Prod.snd e2; simp only at *; omega) y7 (by rw [y8]; exact congrArg nI (tt_s hpos (sc1 hpos (kn1 (fun q => c98 q.2.2.symm) (by omega) (Classical.not_not.mp c187).symm)) (by rw [(kn1 (fun q => c98 q.2.2.symm) (by omega) (Classical.not_not.mp c187).symm)]; simp))) (hA.put (sv1 hpos (kn1 (fun q => c98 q.2.2.symm) (by omega) (Classical.not_not.mp c187).symm)).1 y1 y2 y3 y4) (hF.tr yF) (fun f f1 f2 => (yO f f1 f2).trans (hO f f1 f2))) ⟨rfl, rfl, rfl, rfl, rfl, rfl, rfl, rfl, trivial⟩ | exact v_sub (ih (k + 1) (i + 1) j _ (by omega) (by omega) (by omega) (by omega) (sv1 hpos (kn1 (fun q => absurd q.2.1 (by omega)) (by omega) (Classical.not_not.mp c187).symm)).2 (fun q hq => by rcases Nat.lt_succ_iff_lt_or_eq.mp hq with e | e; exact hns q e; rw [e, hpos]; intro e2; have := congrArg Prod.fst e2; have := congrArg Prod.snd e2; simp only at *; omega) y7 (by rw [y8]; exact congrArg nI (tt_s hpos (sc1 hpos (kn1 (fun q => absurd q.2.1 (by omega)) (by omega) (Classical.not_not.mp c187).symm)) (by rw [(kn1 (fun q => absurd q.2.1 (by omega)) (by omega) (Classical.not_not.mp c187).symm)]; simp))) (hA.put (sv1 hpos (kn1 (fun q => absurd q.2.1 (by omega)) (by omega) (Classical.not_not.mp c187).symm)).1 y1 y2 y3 y4) (hF.tr yF) (fun f f1 f2 => (yO f f1 f2).trans (hO f f1 f2))) ⟨rfl, rfl, rfl, rfl, rfl, rfl, rfl, rfl, trivial⟩ | exact v_sub (ih (k + 1) i (j + 1) _ (by omega) (by omega) (by omega) (by omega) (sv2 hpos (kn2 (fun q => c98 q.2.2.symm) (fun q => c187 q.2.symm))).2 (fun q hq => by rcases Nat.lt_succ_iff_lt_or_eq.mp hq with e | e; exact hns q e; rw [e, hpos]; intro e2; have := congrArg Prod.fst e2; have := congrArg Prod.snd e2; simp only at *; omega) y7 (by rw [y8]; exact congrArg nI (tt_s hpos (sc2 hpos (kn2 (fun q => c98 q.2.2.symm) (fun q => c187 q.2.symm))) (by rw [(kn2 (fun q => c98 q.2.2.symm) (fun q => c187 q.2.symm))]; simp))) (hA.put (sv2 hpos (kn2 (fun q => c98 q.2.2.symm) (fun q => c187 q.2.symm))).1 y1 y2 y3 y4) (hF.tr yF) (fun f f1 f2 => (yO f f1 f2).trans (hO f f1 f2))) ⟨rfl, rfl, rfl, rfl, rfl, rfl, rfl, rfl, trivial⟩ | exact v_sub (ih (k + 1) i (j + 1) _ (by omega) (by omega) (by omega) (by omega) (sv2 hpos (kn2 (fun q => c98 q.2.2.symm) (fun q => absurd q.1 (by omega)))).2 (fun q hq => by rcases Nat.lt_succ_iff_lt_or_eq.mp hq with e | e; exact hns q e; rw [e, hpos]; intro e2; have := congrArg Prod.fst e2; have := congrArg Prod.snd e2; simp only at *; omega) y7 (by rw [y8]; exact congrArg nI (tt_s hpos (sc2 hpos (kn2 (fun q => c98 q.2.2.symm) (fun q => absurd q.1 (by omega)))) (by rw [(kn2 (fun q => c98 q.2.2.symm) (fun q => absurd q.1 (by omega)))]; simp))) (hA.put (sv2 hpos (kn2 (fun q => c98 q.2.2.symm) (fun q => absurd q.1 (by omega)))).1 y1 y2 y3 y4) (hF.tr yF) (fun f f1 f2 => (yO f f1 f2).trans (hO f f1 f2))) ⟨rfl, rfl, rfl, rfl, rfl, rfl, rfl, rfl, trivial⟩ | exact v_sub (ih (k + 1) i (j + 1) _ (by omega) (by omega) (by omega) (by omega) (sv2 hpos (kn2 (fun q => absurd q.2.1 (by omega)) (fun q => c187 q.2.symm))).2 (fun q hq => by rcases Nat.lt_succ_iff_lt_or_eq.mp hq with e | e; exact hns q e; rw [e, hpos]; intro e2; have := congrArg Prod.fst e2; have := congrArg Prod.snd e2; simp only at *; omega) y7 (by rw [y8]; exact congrArg nI (tt_s hpos (sc2 hpos (kn2 (fun q => absurd q.2.1 (by omega)) (fun q => c187 q.2.symm))) (by rw [(kn2 (fun q => absurd q.2.1 (by omega)) (fun q => c187 q.2.symm))]; simp))) (hA.put (sv2 hpos (kn2 (fun q => absurd q.2.1 (by omega)) (fun q => c187 q.2.symm))).1 y1 y2 y3 y4) (hF.tr yF) (fun f f1 f2 => (yO f f1 f2).trans (hO f f1 f2))) ⟨rfl, rfl, rfl, rfl, rfl, rfl, rfl, rfl, trivial⟩ | exact v_sub (ih (k + 1) i (j + 1) _ (by omega) (by omega) (by omega) (by omega) (sv2 hpos (kn2 (fun q => absurd q.2.1 (by omega)) (fun q => absurd q.1 (by omega)))).2 (fun q hq => by rcases Nat.lt_succ_iff_lt_or_eq.mp hq with e | e; exact hns q e; rw [e, hpos]; intro e2; have := congrArg Prod.fst e2; have := congrArg Prod.snd e2; simp only at *; omega) y7 (by rw [y8]; exact congrArg nI (tt_s hpos (sc2 hpos (kn2 (fun q => absurd q.2.1 (by omega)) (fun q => absurd q.1 (by omega)))) (by rw [(kn2 (fun q => absurd q.2.1 (by omega)) (fun q => absurd q.1 (by omega)))]; simp))) (hA.put (sv2 hpos (kn2 (fun q => absurd q.2.1 (by omega)) (fun q => absurd q.1 (by omega)))).1 y1 y2 y3 y4) (hF.tr yF) (fun f f1 f2 => (yO f f1 f2).trans (hO f f1 f2))) ⟨rfl, rfl, rfl, rfl, rfl, rfl, rfl, rfl, trivial⟩ | exact v_sub (ih (k + 1) i (j + 1) _ (by omega) (by omega) (by omega) (by omega) (sv2 hpos (kn2 (fun q => absurd q.1 (by omega)) (fun q => c187 q.2.symm))).2 (fun q hq => by rcases Nat.lt_succ_iff_lt_or_eq.mp hq with e | e; exact hns q e; rw [e, hpos]; intro e2; have := congrArg Prod.fst e2; have := congrArg Prod.snd e2; simp only at *; omega) y7 (by rw [y8]; exact congrArg nI (tt_s hpos (sc2 hpos (kn2 (fun q => absurd q.1 (by omega)) (fun q => c187 q.2.symm))) (by rw [(kn2 (fun q => absurd q.1 (by omega)) (fun q => c187 q.2.symm))]; simp))) (hA.put (sv2 hpos (kn2 (fun q => absurd q.1 (by omega)) (fun q => c187 q.2.symm))).1 y1 y2 y3 y4) (hF.tr yF) (fun f f1 f2 => (yO f f1 f2).trans (hO f f1 f2))) ⟨rfl, rfl, rfl, rfl, rfl, rfl, rfl, rfl, trivial⟩ | exact v_sub (ih (k + 1) i (j + 1) _ (by omega) (by omega) (by omega) (by omega) (sv2 hpos (kn2 (fun q => absurd q.1 (by omega)) (fun q => absurd q.1 (by omega)))).2 (fun q hq => by rcases Nat.lt_succ_iff_lt_or_eq.mp hq with e | e; exact hns q e; rw [e, hpos]; intro e2; have := congrArg Prod.fst e2; have := congrArg Prod.snd e2; simp only at *; omega) y7 (by rw [y8]; exact congrArg nI (tt_s hpos (sc2 hpos (kn2 (fun q => absurd q.1 (by omega)) (fun q => absurd q.1 (by omega)))) (by rw [(kn2 (fun q => absurd q.1 (by omega)) (fun q => absurd q.1 (by omega)))]; simp))) (hA.put (sv2 hpos (kn2 (fun q => absurd q.1 (by omega)) (fun q => absurd q.1 (by omega)))).1 y1 y2 y3 y4) (hF.tr yF) (fun f f1 f2 => (yO f f1 f2).trans (hO f f1 f2))) ⟨rfl, rfl, rfl, rfl, rfl, rfl, rfl, rfl, trivial⟩))
        · first
          | (exfalso; omega)
          | (refine v_aload_n hz dX0_walkSteps_153 rfl ?_
             refine v_getR hz fX0_16 (by assumption) (by assumption) dX0_walkSteps_154 ?_
             refine v_iload hz dX0_walkSteps_157 rfl ?_
             refine v_aaldN hz (by omega) (by assumption) (by omega) (by decide) (hrr i (by omega)).1 dX0_walkSteps_159 ?_
             obtain ⟨-, raK, raN, raO⟩ := hrr i (by omega)
             refine v_iload hz dX0_walkSteps_160 rfl ?_
             refine v_ialdN hz (by assumption) (by assumption) (by omega) (by decide) dX0_walkSteps_162 ?_
             refine v_top (y := nI (pay w S T i j)) (by rw [rr i (by omega)]; exact hre i j (by omega) (by omega) trivial) ?_
             refine v_aload_n hz dX0_walkSteps_163 rfl ?_
             refine v_getR hz fX0_77 (by assumption) (by assumption) dX0_walkSteps_164 ?_
             refine v_iload hz dX0_walkSteps_167 rfl ?_
             refine v_aaldN hz (by omega) (by assumption) (by omega) (by decide) (srow i (by omega)).1 dX0_walkSteps_169 ?_
             refine v_iload_n hz dX0_walkSteps_170 rfl ?_
             have hsk := (srow i (by omega)).2.1
             refine v_callVi hz lX0_96 (cX6_cost_ok _ _ _ _ _ _ A _ (srow i (by omega)).2 _ w (g1.2.2.2 i (by omega)).1 (g1.2.2.2 i (by omega)).2.1) (by assumption) rfl rfl (Nat.le_of_ble_eq_true rfl) (by decide) ⟨Nat.zero_le _, Nat.zero_le _⟩ dX0_walkSteps_171 (fun r I1 h171 => ?_)
             obtain ⟨rfl, rfl⟩ := h171
             refine v_aload_n hz dX0_walkSteps_174 rfl ?_
             refine v_getR hz fX0_16 (by assumption) (by assumption) dX0_walkSteps_175 ?_
             refine v_iload hz dX0_walkSteps_178 rfl ?_
             refine v_ic (v := nI 1) hz dX0_walkSteps_180 (by decide) ?_
             first | with_reducible refine v_iaddN hz dX0_walkSteps_181 ?_ | refine v_iadd hz dX0_walkSteps_181 ?_
             refine v_aaldN hz (by omega) (by assumption) (by omega) (by decide) (hrr (i + 1) (by omega)).1 dX0_walkSteps_182 ?_
             obtain ⟨-, rcK, rcN, rcO⟩ := hrr (i + 1) (by omega)
             refine v_iload hz dX0_walkSteps_183 rfl ?_
             refine v_ialdN hz (by assumption) (by assumption) (by omega) (by decide) dX0_walkSteps_185 ?_
             refine v_top (y := nI (pay w S T (i + 1) j)) (by rw [rr (i + 1) (by omega)]; exact hre (i + 1) j (by omega) (by omega) trivial) ?_
             first | with_reducible refine v_iaddN hz dX0_walkSteps_186 ?_ | refine v_iadd hz dX0_walkSteps_186 ?_
             first | with_reducible refine v_icmp_neN hz 234 (by omega) (by omega) dX0_walkSteps_187 (by decide) (fun c187 => ?_) (fun c187 => ?_) | refine v_icmp_ne hz 234 dX0_walkSteps_187 (by decide) (fun c187 => ?_) (fun c187 => ?_)
             · first
               | (exfalso; omega)
               | (refine v_iload hz dX0_walkSteps_234 rfl ?_
                  first | with_reducible refine v_if_eqB hz 283 dX0_walkSteps_236 (by decide) (fun c236 => ?_) (fun c236 => ?_) | with_reducible refine v_if_eqN hz 283 (by omega) dX0_walkSteps_236 (by decide) (fun c236 => ?_) (fun c236 => ?_) | refine v_if_eq hz 283 dX0_walkSteps_236 (by decide) (fun c236 => ?_) (fun c236 => ?_)
                  · first
                    | (exfalso; omega)
                    | (exact v_vret hz hr dX0_walkSteps_283 ⟨hF, hO, k, ⟨by rw [hpos, show i = S.1 by omega, show j = T.1 by omega], hns⟩, by omega, h7, h8, hA⟩)
                  · first
                    | (exfalso; omega)
                    | (refine v_aload hz dX0_walkSteps_239 rfl ?_
                       refine v_ic (v := nI 2) hz dX0_walkSteps_241 (by decide) ?_
                       refine v_aload_n hz dX0_walkSteps_242 rfl ?_
                       refine v_getR hz fX0_77 (by assumption) (by assumption) dX0_walkSteps_243 ?_
                       refine v_iload hz dX0_walkSteps_246 rfl ?_
                       refine v_aaldN hz (by omega) (by assumption) (by omega) (by decide) (trow j (by omega)).1 dX0_walkSteps_248 ?_
                       refine v_iload_n hz dX0_walkSteps_249 rfl ?_
                       have hsk := (trow j (by omega)).2.1
                       refine v_callVi hz lX0_96 (cX6_cost_ok _ _ _ _ _ _ A _ (trow j (by omega)).2 _ w (g2.2.2.2 j (by omega)).1 (g2.2.2.2 j (by omega)).2.1) (by assumption) rfl rfl (Nat.le_of_ble_eq_true rfl) (by decide) ⟨Nat.zero_le _, Nat.zero_le _⟩ dX0_walkSteps_250 (fun r I1 h250 => ?_)
                       obtain ⟨rfl, rfl⟩ := h250
                       refine v_ic (v := (-1)) hz dX0_walkSteps_253 (by decide) ?_
                       refine v_iload hz dX0_walkSteps_254 rfl ?_
                       refine v_aload_n hz dX0_walkSteps_256 rfl ?_
                       refine v_getR hz fX0_77 (by assumption) (by assumption) dX0_walkSteps_257 ?_
                       refine v_iload hz dX0_walkSteps_260 rfl ?_
                       refine v_aaldN hz (by omega) (by assumption) (by omega) (by decide) (trow j (by omega)).1 dX0_walkSteps_262 ?_
                       refine v_callVi hz lX0_85 (cX6_isWord_ok _ _ _ _ _ _ A _ (trow j (by omega)).2 (T.2.1 j) (g2.2.2.2 j (by omega)).1 (g2.2.2.2 j (by omega)).2.1) (by assumption) rfl rfl (Nat.le_of_ble_eq_true rfl) (by decide) ⟨Nat.zero_le _, Nat.zero_le _⟩ dX0_walkSteps_263 (fun r I1 h263 => ?_)
                       obtain ⟨rfl, rfl⟩ := h263
                       refine v_join 274 (bz (T.2.1 j = 0)) (fun hj => ?_) ?_
                       · first | with_reducible refine v_if_neB hz 273 dX0_walkSteps_266 (by decide) (fun c266 => ?_) (fun c266 => ?_) | with_reducible refine v_if_neN hz 273 (by omega) dX0_walkSteps_266 (by decide) (fun c266 => ?_) (fun c266 => ?_) | refine v_if_ne hz 273 dX0_walkSteps_266 (by decide) (fun c266 => ?_) (fun c266 => ?_)
                         · refine v_ic (v := nI 0) hz dX0_walkSteps_273 (by decide) ?_
                           exact v_top (by first | exact (bz_t (by omega)).symm | exact (bz_f (by omega)).symm) hj
                         · refine v_ic (v := nI 1) hz dX0_walkSteps_269 (by decide) ?_
                           refine v_goto hz 274 dX0_walkSteps_270 (by decide) ?_
                           exact v_top (by first | exact (bz_t (by omega)).symm | exact (bz_f (by omega)).symm) hj
                       refine v_callVv hz lX0_103 (cX1_addStep_ok _ _ _ _ _ _ A cb hc k (ttg w S T k) (cst w (T.2.1 j)) _ _ _ (T.2.1 j = 0) (by omega) (by omega) h7 h8) (by assumption) rfl rfl (Nat.le_of_ble_eq_true rfl) (by decide) ⟨Nat.zero_le _, Nat.zero_le _⟩ dX0_walkSteps_274 (fun I1 h274 => ?_)
                       obtain ⟨y7, y8, yO, yF, y1, y2, y3, y4⟩ := aS_all hc h8 h274
                       first | refine v_iincN hz 1 dX0_walkSteps_277 (by decide) rfl (by decide) rfl ?_ | refine v_iinc hz dX0_walkSteps_277 rfl (by decide) rfl ?_
                       refine v_goto hz 284 dX0_walkSteps_280 (by decide) ?_
                       first | refine v_iincN hz 1 dX0_walkSteps_284 (by decide) rfl (by decide) rfl ?_ | refine v_iinc hz dX0_walkSteps_284 rfl (by decide) rfl ?_
                       refine v_goto hz 14 dX0_walkSteps_287 (by decide) ?_
                       first | exact v_sub (ih (k + 1) (i + 1) (j + 1) _ (by omega) (by omega) (by omega) (by omega) (sv0 hpos (kn0 (by omega) (by omega) (Classical.not_not.mp c98).symm)).2 (fun q hq => by rcases Nat.lt_succ_iff_lt_or_eq.mp hq with e | e; exact hns q e; rw [e, hpos]; intro e2; have := congrArg Prod.fst e2; have := congrArg Prod.snd e2; simp only at *; omega) y7 (by rw [y8]; exact congrArg nI (tt_s hpos (sc0 hpos (kn0 (by omega) (by omega) (Classical.not_not.mp c98).symm)) (by rw [(kn0 (by omega) (by omega) (Classical.not_not.mp c98).symm)]; simp))) (hA.put (sv0 hpos (kn0 (by omega) (by omega) (Classical.not_not.mp c98).symm)).1 y1 y2 y3 y4) (hF.tr yF) (fun f f1 f2 => (yO f f1 f2).trans (hO f f1 f2))) ⟨rfl, rfl, rfl, rfl, rfl, rfl, rfl, rfl, trivial⟩ | exact v_sub (ih (k + 1) (i + 1) j _ (by omega) (by omega) (by omega) (by omega) (sv1 hpos (kn1 (fun q => c98 q.2.2.symm) (by omega) (Classical.not_not.mp c187).symm)).2 (fun q hq => by rcases Nat.lt_succ_iff_lt_or_eq.mp hq with e | e; exact hns q e; rw [e, hpos]; intro e2; have := congrArg Prod.fst e2; have := congrArg Prod.snd e2; simp only at *; omega) y7 (by rw [y8]; exact congrArg nI (tt_s hpos (sc1 hpos (kn1 (fun q => c98 q.2.2.symm) (by omega) (Classical.not_not.mp c187).symm)) (by rw [(kn1 (fun q => c98 q.2.2.symm) (by omega) (Classical.not_not.mp c187).symm)]; simp))) (hA.put (sv1 hpos (kn1 (fun q => c98 q.2.2.symm) (by omega) (Classical.not_not.mp c187).symm)).1 y1 y2 y3 y4) (hF.tr yF) (fun f f1 f2 => (yO f f1 f2).trans (hO f f1 f2))) ⟨rfl, rfl, rfl, rfl, rfl, rfl, rfl, rfl, trivial⟩ | exact v_sub (ih (k + 1) (i + 1) j _ (by omega) (by omega) (by omega) (by omega) (sv1 hpos (kn1 (fun q => absurd q.2.1 (by omega)) (by omega) (Classical.not_not.mp c187).symm)).2 (fun q hq => by rcases Nat.lt_succ_iff_lt_or_eq.mp hq with e | e; exact hns q e; rw [e, hpos]; intro e2; have := congrArg Prod.fst e2; have := congrArg Prod.snd e2; simp only at *; omega) y7 (by rw [y8]; exact congrArg nI (tt_s hpos (sc1 hpos (kn1 (fun q => absurd q.2.1 (by omega)) (by omega) (Classical.not_not.mp c187).symm)) (by rw [(kn1 (fun q => absurd q.2.1 (by omega)) (by omega) (Classical.not_not.mp c187).symm)]; simp))) (hA.put (sv1 hpos (kn1 (fun q => absurd q.2.1 (by omega)) (by omega) (Classical.not_not.mp c187).symm)).1 y1 y2 y3 y4) (hF.tr yF) (fun f f1 f2 => (yO f f1 f2).trans (hO f f1 f2))) ⟨rfl, rfl, rfl, rfl, rfl, rfl, rfl, rfl, trivial⟩ | exact v_sub (ih (k + 1) i (j + 1) _ (by omega) (by omega) (by omega) (by omega) (sv2 hpos (kn2 (fun q => c98 q.2.2.symm) (fun q => c187 q.2.symm))).2 (fun q hq => by rcases Nat.lt_succ_iff_lt_or_eq.mp hq with e | e; exact hns q e; rw [e, hpos]; intro e2; have := congrArg Prod.fst e2; have := congrArg Prod.snd e2; simp only at *; omega) y7 (by rw [y8]; exact congrArg nI (tt_s hpos (sc2 hpos (kn2 (fun q => c98 q.2.2.symm) (fun q => c187 q.2.symm))) (by rw [(kn2 (fun q => c98 q.2.2.symm) (fun q => c187 q.2.symm))]; simp))) (hA.put (sv2 hpos (kn2 (fun q => c98 q.2.2.symm) (fun q => c187 q.2.symm))).1 y1 y2 y3 y4) (hF.tr yF) (fun f f1 f2 => (yO f f1 f2).trans (hO f f1 f2))) ⟨rfl, rfl, rfl, rfl, rfl, rfl, rfl, rfl, trivial⟩ | exact v_sub (ih (k + 1) i (j + 1) _ (by omega) (by omega) (by omega) (by omega) (sv2 hpos (kn2 (fun q => c98 q.2.2.symm) (fun q => absurd q.1 (by omega)))).2 (fun q hq => by rcases Nat.lt_succ_iff_lt_or_eq.mp hq with e | e; exact hns q e; rw [e, hpos]; intro e2; have := congrArg Prod.fst e2; have := congrArg Prod.snd e2; simp only at *; omega) y7 (by rw [y8]; exact congrArg nI (tt_s hpos (sc2 hpos (kn2 (fun q => c98 q.2.2.symm) (fun q => absurd q.1 (by omega)))) (by rw [(kn2 (fun q => c98 q.2.2.symm) (fun q => absurd q.1 (by omega)))]; simp))) (hA.put (sv2 hpos (kn2 (fun q => c98 q.2.2.symm) (fun q => absurd q.1 (by omega)))).1 y1 y2 y3 y4) (hF.tr yF) (fun f f1 f2 => (yO f f1 f2).trans (hO f f1 f2))) ⟨rfl, rfl, rfl, rfl, rfl, rfl, rfl, rfl, trivial⟩ | exact v_sub (ih (k + 1) i (j + 1) _ (by omega) (by omega) (by omega) (by omega) (sv2 hpos (kn2 (fun q => absurd q.2.1 (by omega)) (fun q => c187 q.2.symm))).2 (fun q hq => by rcases Nat.lt_succ_iff_lt_or_eq.mp hq with e | e; exact hns q e; rw [e, hpos]; intro e2; have := congrArg Prod.fst e2; have := congrArg Prod.snd e2; simp only at *; omega) y7 (by rw [y8]; exact congrArg nI (tt_s hpos (sc2 hpos (kn2 (fun q => absurd q.2.1 (by omega)) (fun q => c187 q.2.symm))) (by rw [(kn2 (fun q => absurd q.2.1 (by omega)) (fun q => c187 q.2.symm))]; simp))) (hA.put (sv2 hpos (kn2 (fun q => absurd q.2.1 (by omega)) (fun q => c187 q.2.symm))).1 y1 y2 y3 y4) (hF.tr yF) (fun f f1 f2 => (yO f f1 f2).trans (hO f f1 f2))) ⟨rfl, rfl, rfl, rfl, rfl, rfl, rfl, rfl, trivial⟩ | exact v_sub (ih (k + 1) i (j + 1) _ (by omega) (by omega) (by omega) (by omega) (sv2 hpos (kn2 (fun q => absurd q.2.1 (by omega)) (fun q => absurd q.1 (by omega)))).2 (fun q hq => by rcases Nat.lt_succ_iff_lt_or_eq.mp hq with e | e; exact hns q e; rw [e, hpos]; intro e2; have := congrArg Prod.fst e2; have := congrArg Prod.snd e2; simp only at *; omega) y7 (by rw [y8]; exact congrArg nI (tt_s hpos (sc2 hpos (kn2 (fun q => absurd q.2.1 (by omega)) (fun q => absurd q.1 (by omega)))) (by rw [(kn2 (fun q => absurd q.2.1 (by omega)) (fun q => absurd q.1 (by omega)))]; simp))) (hA.put (sv2 hpos (kn2 (fun q => absurd q.2.1 (by omega)) (fun q => absurd q.1 (by omega)))).1 y1 y2 y3 y4) (hF.tr yF) (fun f f1 f2 => (yO f f1 f2).trans (hO f f1 f2))) ⟨rfl, rfl, rfl, rfl, rfl, rfl, rfl, rfl, trivial⟩ | exact v_sub (ih (k + 1) i (j + 1) _ (by omega) (by omega) (by omega) (by omega) (sv2 hpos (kn2 (fun q => absurd q.1 (by omega)) (fun q => c187 q.2.symm))).2 (fun q hq => by rcases Nat.lt_succ_iff_lt_or_eq.mp hq with e | e; exact hns q e; rw [e, hpos]; intro e2; have := congrArg Prod.fst e2; have := congrArg Prod.snd e2; simp only at *; omega) y7 (by rw [y8]; exact congrArg nI (tt_s hpos (sc2 hpos (kn2 (fun q => absurd q.1 (by omega)) (fun q => c187 q.2.symm))) (by rw [(kn2 (fun q => absurd q.1 (by omega)) (fun q => c187 q.2.symm))]; simp))) (hA.put (sv2 hpos (kn2 (fun q => absurd q.1 (by omega)) (fun q => c187 q.2.symm))).1 y1 y2 y3 y4) (hF.tr yF) (fun f f1 f2 => (yO f f1 f2).trans (hO f f1 f2))) ⟨rfl, rfl, rfl, rfl, rfl, rfl, rfl, rfl, trivial⟩ | exact v_sub (ih (k + 1) i (j + 1) _ (by omega) (by omega) (by omega) (by omega) (sv2 hpos (kn2 (fun q => absurd q.1 (by omega)) (fun q => absurd q.1 (by omega)))).2 (fun q hq => by rcases Nat.lt_succ_iff_lt_or_eq.mp hq with e | e; exact hns q e; rw [e, hpos]; intro e2; have := congrArg Prod.fst e2; have := congrArg Prod.snd e2; simp only at *; omega) y7 (by rw [y8]; exact congrArg nI (tt_s hpos (sc2 hpos (kn2 (fun q => absurd q.1 (by omega)) (fun q => absurd q.1 (by omega)))) (by rw [(kn2 (fun q => absurd q.1 (by omega)) (fun q => absurd q.1 (by omega)))]; simp))) (hA.put (sv2 hpos (kn2 (fun q => absurd q.1 (by omega)) (fun q => absurd q.1 (by omega)))).1 y1 y2 y3 y4) (hF.tr yF) (fun f f1 f2 => (yO f f1 f2).trans (hO f f1 f2))) ⟨rfl, rfl, rfl, rfl, rfl, rfl, rfl, rfl, trivial⟩))
             · first
               | (exfalso; omega)
               | (refine v_aload hz dX0_walkSteps_190 rfl ?_
                  refine v_ic (v := nI 1) hz dX0_walkSteps_192 (by decide) ?_
                  refine v_aload_n hz dX0_walkSteps_193 rfl ?_
                  refine v_getR hz fX0_77 (by assumption) (by assumption) dX0_walkSteps_194 ?_
                  refine v_iload hz dX0_walkSteps_197 rfl ?_
                  refine v_aaldN hz (by omega) (by assumption) (by omega) (by decide) (srow i (by omega)).1 dX0_walkSteps_199 ?_
                  refine v_iload_n hz dX0_walkSteps_200 rfl ?_
                  refine v_callVi hz lX0_96 (cX6_cost_ok _ _ _ _ _ _ A _ (srow i (by omega)).2 _ w (g1.2.2.2 i (by omega)).1 (g1.2.2.2 i (by omega)).2.1) (by assumption) rfl rfl (Nat.le_of_ble_eq_true rfl) (by decide) ⟨Nat.zero_le _, Nat.zero_le _⟩ dX0_walkSteps_201 (fun r I1 h201 => ?_)
                  obtain ⟨rfl, rfl⟩ := h201
                  refine v_iload hz dX0_walkSteps_204 rfl ?_
                  refine v_ic (v := (-1)) hz dX0_walkSteps_206 (by decide) ?_
                  refine v_aload_n hz dX0_walkSteps_207 rfl ?_
                  refine v_getR hz fX0_77 (by assumption) (by assumption) dX0_walkSteps_208 ?_
                  refine v_iload hz dX0_walkSteps_211 rfl ?_
                  refine v_aaldN hz (by omega) (by assumption) (by omega) (by decide) (srow i (by omega)).1 dX0_walkSteps_213 ?_
                  refine v_callVi hz lX0_85 (cX6_isWord_ok _ _ _ _ _ _ A _ (srow i (by omega)).2 (S.2.1 i) (g1.2.2.2 i (by omega)).1 (g1.2.2.2 i (by omega)).2.1) (by assumption) rfl rfl (Nat.le_of_ble_eq_true rfl) (by decide) ⟨Nat.zero_le _, Nat.zero_le _⟩ dX0_walkSteps_214 (fun r I1 h214 => ?_)
                  obtain ⟨rfl, rfl⟩ := h214
                  refine v_join 225 (bz (S.2.1 i = 0)) (fun hj => ?_) ?_
                  · first | with_reducible refine v_if_neB hz 224 dX0_walkSteps_217 (by decide) (fun c217 => ?_) (fun c217 => ?_) | with_reducible refine v_if_neN hz 224 (by omega) dX0_walkSteps_217 (by decide) (fun c217 => ?_) (fun c217 => ?_) | refine v_if_ne hz 224 dX0_walkSteps_217 (by decide) (fun c217 => ?_) (fun c217 => ?_)
                    · refine v_ic (v := nI 0) hz dX0_walkSteps_224 (by decide) ?_
                      exact v_top (by first | exact (bz_t (by omega)).symm | exact (bz_f (by omega)).symm) hj
                    · refine v_ic (v := nI 1) hz dX0_walkSteps_220 (by decide) ?_
                      refine v_goto hz 225 dX0_walkSteps_221 (by decide) ?_
                      exact v_top (by first | exact (bz_t (by omega)).symm | exact (bz_f (by omega)).symm) hj
                  refine v_callVv hz lX0_103 (cX1_addStep_ok _ _ _ _ _ _ A cb hc k (ttg w S T k) (cst w (S.2.1 i)) _ _ _ (S.2.1 i = 0) (by omega) (by omega) h7 h8) (by assumption) rfl rfl (Nat.le_of_ble_eq_true rfl) (by decide) ⟨Nat.zero_le _, Nat.zero_le _⟩ dX0_walkSteps_225 (fun I1 h225 => ?_)
                  obtain ⟨y7, y8, yO, yF, y1, y2, y3, y4⟩ := aS_all hc h8 h225
                  first | refine v_iincN hz 1 dX0_walkSteps_228 (by decide) rfl (by decide) rfl ?_ | refine v_iinc hz dX0_walkSteps_228 rfl (by decide) rfl ?_
                  refine v_goto hz 284 dX0_walkSteps_231 (by decide) ?_
                  first | refine v_iincN hz 1 dX0_walkSteps_284 (by decide) rfl (by decide) rfl ?_ | refine v_iinc hz dX0_walkSteps_284 rfl (by decide) rfl ?_
                  refine v_goto hz 14 dX0_walkSteps_287 (by decide) ?_
                  first | exact v_sub (ih (k + 1) (i + 1) (j + 1) _ (by omega) (by omega) (by omega) (by omega) (sv0 hpos (kn0 (by omega) (by omega) (Classical.not_not.mp c98).symm)).2 (fun q hq => by rcases Nat.lt_succ_iff_lt_or_eq.mp hq with e | e; exact hns q e; rw [e, hpos]; intro e2; have := congrArg Prod.fst e2; have := congrArg Prod.snd e2; simp only at *; omega) y7 (by rw [y8]; exact congrArg nI (tt_s hpos (sc0 hpos (kn0 (by omega) (by omega) (Classical.not_not.mp c98).symm)) (by rw [(kn0 (by omega) (by omega) (Classical.not_not.mp c98).symm)]; simp))) (hA.put (sv0 hpos (kn0 (by omega) (by omega) (Classical.not_not.mp c98).symm)).1 y1 y2 y3 y4) (hF.tr yF) (fun f f1 f2 => (yO f f1 f2).trans (hO f f1 f2))) ⟨rfl, rfl, rfl, rfl, rfl, rfl, rfl, rfl, trivial⟩ | exact v_sub (ih (k + 1) (i + 1) j _ (by omega) (by omega) (by omega) (by omega) (sv1 hpos (kn1 (fun q => c98 q.2.2.symm) (by omega) (Classical.not_not.mp c187).symm)).2 (fun q hq => by rcases Nat.lt_succ_iff_lt_or_eq.mp hq with e | e; exact hns q e; rw [e, hpos]; intro e2; have := congrArg Prod.fst e2; have := congrArg Prod.snd e2; simp only at *; omega) y7 (by rw [y8]; exact congrArg nI (tt_s hpos (sc1 hpos (kn1 (fun q => c98 q.2.2.symm) (by omega) (Classical.not_not.mp c187).symm)) (by rw [(kn1 (fun q => c98 q.2.2.symm) (by omega) (Classical.not_not.mp c187).symm)]; simp))) (hA.put (sv1 hpos (kn1 (fun q => c98 q.2.2.symm) (by omega) (Classical.not_not.mp c187).symm)).1 y1 y2 y3 y4) (hF.tr yF) (fun f f1 f2 => (yO f f1 f2).trans (hO f f1 f2))) ⟨rfl, rfl, rfl, rfl, rfl, rfl, rfl, rfl, trivial⟩ | exact v_sub (ih (k + 1) (i + 1) j _ (by omega) (by omega) (by omega) (by omega) (sv1 hpos (kn1 (fun q => absurd q.2.1 (by omega)) (by omega) (Classical.not_not.mp c187).symm)).2 (fun q hq => by rcases Nat.lt_succ_iff_lt_or_eq.mp hq with e | e; exact hns q e; rw [e, hpos]; intro e2; have := congrArg Prod.fst e2; have := congrArg Prod.snd e2; simp only at *; omega) y7 (by rw [y8]; exact congrArg nI (tt_s hpos (sc1 hpos (kn1 (fun q => absurd q.2.1 (by omega)) (by omega) (Classical.not_not.mp c187).symm)) (by rw [(kn1 (fun q => absurd q.2.1 (by omega)) (by omega) (Classical.not_not.mp c187).symm)]; simp))) (hA.put (sv1 hpos (kn1 (fun q => absurd q.2.1 (by omega)) (by omega) (Classical.not_not.mp c187).symm)).1 y1 y2 y3 y4) (hF.tr yF) (fun f f1 f2 => (yO f f1 f2).trans (hO f f1 f2))) ⟨rfl, rfl, rfl, rfl, rfl, rfl, rfl, rfl, trivial⟩ | exact v_sub (ih (k + 1) i (j + 1) _ (by omega) (by omega) (by omega) (by omega) (sv2 hpos (kn2 (fun q => c98 q.2.2.symm) (fun q => c187 q.2.symm))).2 (fun q hq => by rcases Nat.lt_succ_iff_lt_or_eq.mp hq with e | e; exact hns q e; rw [e, hpos]; intro e2; have := congrArg Prod.fst e2; have := congrArg Prod.snd e2; simp only at *; omega) y7 (by rw [y8]; exact congrArg nI (tt_s hpos (sc2 hpos (kn2 (fun q => c98 q.2.2.symm) (fun q => c187 q.2.symm))) (by rw [(kn2 (fun q => c98 q.2.2.symm) (fun q => c187 q.2.symm))]; simp))) (hA.put (sv2 hpos (kn2 (fun q => c98 q.2.2.symm) (fun q => c187 q.2.symm))).1 y1 y2 y3 y4) (hF.tr yF) (fun f f1 f2 => (yO f f1 f2).trans (hO f f1 f2))) ⟨rfl, rfl, rfl, rfl, rfl, rfl, rfl, rfl, trivial⟩ | exact v_sub (ih (k + 1) i (j + 1) _ (by omega) (by omega) (by omega) (by omega) (sv2 hpos (kn2 (fun q => c98 q.2.2.symm) (fun q => absurd q.1 (by omega)))).2 (fun q hq => by rcases Nat.lt_succ_iff_lt_or_eq.mp hq with e | e; exact hns q e; rw [e, hpos]; intro e2; have := congrArg Prod.fst e2; have := congrArg Prod.snd e2; simp only at *; omega) y7 (by rw [y8]; exact congrArg nI (tt_s hpos (sc2 hpos (kn2 (fun q => c98 q.2.2.symm) (fun q => absurd q.1 (by omega)))) (by rw [(kn2 (fun q => c98 q.2.2.symm) (fun q => absurd q.1 (by omega)))]; simp))) (hA.put (sv2 hpos (kn2 (fun q => c98 q.2.2.symm) (fun q => absurd q.1 (by omega)))).1 y1 y2 y3 y4) (hF.tr yF) (fun f f1 f2 => (yO f f1 f2).trans (hO f f1 f2))) ⟨rfl, rfl, rfl, rfl, rfl, rfl, rfl, rfl, trivial⟩ | exact v_sub (ih (k + 1) i (j + 1) _ (by omega) (by omega) (by omega) (by omega) (sv2 hpos (kn2 (fun q => absurd q.2.1 (by omega)) (fun q => c187 q.2.symm))).2 (fun q hq => by rcases Nat.lt_succ_iff_lt_or_eq.mp hq with e | e; exact hns q e; rw [e, hpos]; intro e2; have := congrArg Prod.fst e2; have := congrArg Prod.snd e2; simp only at *; omega) y7 (by rw [y8]; exact congrArg nI (tt_s hpos (sc2 hpos (kn2 (fun q => absurd q.2.1 (by omega)) (fun q => c187 q.2.symm))) (by rw [(kn2 (fun q => absurd q.2.1 (by omega)) (fun q => c187 q.2.symm))]; simp))) (hA.put (sv2 hpos (kn2 (fun q => absurd q.2.1 (by omega)) (fun q => c187 q.2.symm))).1 y1 y2 y3 y4) (hF.tr yF) (fun f f1 f2 => (yO f f1 f2).trans (hO f f1 f2))) ⟨rfl, rfl, rfl, rfl, rfl, rfl, rfl, rfl, trivial⟩ | exact v_sub (ih (k + 1) i (j + 1) _ (by omega) (by omega) (by omega) (by omega) (sv2 hpos (kn2 (fun q => absurd q.2.1 (by omega)) (fun q => absurd q.1 (by omega)))).2 (fun q hq => by rcases Nat.lt_succ_iff_lt_or_eq.mp hq with e | e; exact hns q e; rw [e, hpos]; intro e2; have := congrArg Prod.fst e2; have := congrArg Prod.snd e2; simp only at *; omega) y7 (by rw [y8]; exact congrArg nI (tt_s hpos (sc2 hpos (kn2 (fun q => absurd q.2.1 (by omega)) (fun q => absurd q.1 (by omega)))) (by rw [(kn2 (fun q => absurd q.2.1 (by omega)) (fun q => absurd q.1 (by omega)))]; simp))) (hA.put (sv2 hpos (kn2 (fun q => absurd q.2.1 (by omega)) (fun q => absurd q.1 (by omega)))).1 y1 y2 y3 y4) (hF.tr yF) (fun f f1 f2 => (yO f f1 f2).trans (hO f f1 f2))) ⟨rfl, rfl, rfl, rfl, rfl, rfl, rfl, rfl, trivial⟩ | exact v_sub (ih (k + 1) i (j + 1) _ (by omega) (by omega) (by omega) (by omega) (sv2 hpos (kn2 (fun q => absurd q.1 (by omega)) (fun q => c187 q.2.symm))).2 (fun q hq => by rcases Nat.lt_succ_iff_lt_or_eq.mp hq with e | e; exact hns q e; rw [e, hpos]; intro e2; have := congrArg Prod.fst e2; have := congrArg Prod.snd e2; simp only at *; omega) y7 (by rw [y8]; exact congrArg nI (tt_s hpos (sc2 hpos (kn2 (fun q => absurd q.1 (by omega)) (fun q => c187 q.2.symm))) (by rw [(kn2 (fun q => absurd q.1 (by omega)) (fun q => c187 q.2.symm))]; simp))) (hA.put (sv2 hpos (kn2 (fun q => absurd q.1 (by omega)) (fun q => c187 q.2.symm))).1 y1 y2 y3 y4) (hF.tr yF) (fun f f1 f2 => (yO f f1 f2).trans (hO f f1 f2))) ⟨rfl, rfl, rfl, rfl, rfl, rfl, rfl, rfl, trivial⟩ | exact v_sub (ih (k + 1) i (j + 1) _ (by omega) (by omega) (by omega) (by omega) (sv2 hpos (kn2 (fun q => absurd q.1 (by omega)) (fun q => absurd q.1 (by omega)))).2 (fun q hq => by rcases Nat.lt_succ_iff_lt_or_eq.mp hq with e | e; exact hns q e; rw [e, hpos]; intro e2; have := congrArg Prod.fst e2; have := congrArg Prod.snd e2; simp only at *; omega) y7 (by rw [y8]; exact congrArg nI (tt_s hpos (sc2 hpos (kn2 (fun q => absurd q.1 (by omega)) (fun q => absurd q.1 (by omega)))) (by rw [(kn2 (fun q => absurd q.1 (by omega)) (fun q => absurd q.1 (by omega)))]; simp))) (hA.put (sv2 hpos (kn2 (fun q => absurd q.1 (by omega)) (fun q => absurd q.1 (by omega)))).1 y1 y2 y3 y4) (hF.tr yF) (fun f f1 f2 => (yO f f1 f2).trans (hO f f1 f2))) ⟨rfl, rfl, rfl, rfl, rfl, rfl, rfl, rfl, trivial⟩))
      · refine v_aload_n hz dX0_walkSteps_63 rfl ?_
        refine v_getR hz fX0_16 (by assumption) (by assumption) dX0_walkSteps_64 ?_
        refine v_iload hz dX0_walkSteps_67 rfl ?_
        refine v_aaldN hz (by omega) (by assumption) (by omega) (by decide) (hrr i (by omega)).1 dX0_walkSteps_69 ?_
        obtain ⟨-, raK, raN, raO⟩ := hrr i (by omega)
        refine v_iload hz dX0_walkSteps_70 rfl ?_
        refine v_ialdN hz (by assumption) (by assumption) (by omega) (by decide) dX0_walkSteps_72 ?_
        refine v_top (y := nI (pay w S T i j)) (by rw [rr i (by omega)]; exact hre i j (by omega) (by omega) trivial) ?_
        refine v_aload_n hz dX0_walkSteps_73 rfl ?_
        refine v_getR hz fX0_11 (by assumption) (by assumption) dX0_walkSteps_74 ?_
        refine v_iload hz dX0_walkSteps_77 rfl ?_
        refine v_aaldN hz (by omega) (by assumption) (by omega) (by decide) (hrb i (by omega)).1 dX0_walkSteps_79 ?_
        obtain ⟨-, rbK, rbN, rbO⟩ := hrb i (by omega)
        refine v_iload hz dX0_walkSteps_80 rfl ?_
        refine v_ialdN hz (by assumption) (by assumption) (by omega) (by decide) dX0_walkSteps_82 ?_
        refine v_top (y := nI (bcn 1000000 w S T i j)) (by rw [bb i (by omega)]; exact hbo i j (by omega) (by omega) trivial) ?_
        have bl := bcn_le (N := 1000000) (S := S) (T := T) (i := i) (j := j) (by decide) (g1.2.2.2 i (by omega)).1 (g2.2.2.2 j (by omega)).1 hw
        refine v_aload_n hz dX0_walkSteps_83 rfl ?_
        refine v_getR hz fX0_16 (by assumption) (by assumption) dX0_walkSteps_84 ?_
        refine v_iload hz dX0_walkSteps_87 rfl ?_
        refine v_ic (v := nI 1) hz dX0_walkSteps_89 (by decide) ?_
        first | with_reducible refine v_iaddN hz dX0_walkSteps_90 ?_ | refine v_iadd hz dX0_walkSteps_90 ?_
        refine v_aaldN hz (by omega) (by assumption) (by omega) (by decide) (hrr (i + 1) (by omega)).1 dX0_walkSteps_91 ?_
        obtain ⟨-, rcK, rcN, rcO⟩ := hrr (i + 1) (by omega)
        refine v_iload hz dX0_walkSteps_92 rfl ?_
        refine v_ic (v := nI 1) hz dX0_walkSteps_94 (by decide) ?_
        first | with_reducible refine v_iaddN hz dX0_walkSteps_95 ?_ | refine v_iadd hz dX0_walkSteps_95 ?_
        refine v_ialdN hz (by assumption) (by assumption) (by omega) (by decide) dX0_walkSteps_96 ?_
        refine v_top (y := nI (pay w S T (i + 1) (j + 1))) (by rw [rr (i + 1) (by omega)]; exact hre (i + 1) (j + 1) (by omega) (by omega) trivial) ?_
        first | with_reducible refine v_iaddN hz dX0_walkSteps_97 ?_ | refine v_iadd hz dX0_walkSteps_97 ?_
        first | with_reducible refine v_icmp_neN hz 148 (by omega) (by omega) dX0_walkSteps_98 (by decide) (fun c98 => ?_) (fun c98 => ?_) | refine v_icmp_ne hz 148 dX0_walkSteps_98 (by decide) (fun c98 => ?_) (fun c98 => ?_)
        · refine v_iload hz dX0_walkSteps_148 rfl ?_
          first | with_reducible refine v_if_eqB hz 234 dX0_walkSteps_150 (by decide) (fun c150 => ?_) (fun c150 => ?_) | with_reducible refine v_if_eqN hz 234 (by omega) dX0_walkSteps_150 (by decide) (fun c150 => ?_) (fun c150 => ?_) | refine v_if_eq hz 234 dX0_walkSteps_150 (by decide) (fun c150 => ?_) (fun c150 => ?_)
          · first
            | (exfalso; omega)
            | (refine v_iload hz dX0_walkSteps_234 rfl ?_
               first | with_reducible refine v_if_eqB hz 283 dX0_walkSteps_236 (by decide) (fun c236 => ?_) (fun c236 => ?_) | with_reducible refine v_if_eqN hz 283 (by omega) dX0_walkSteps_236 (by decide) (fun c236 => ?_) (fun c236 => ?_) | refine v_if_eq hz 283 dX0_walkSteps_236 (by decide) (fun c236 => ?_) (fun c236 => ?_)
               · first
                 | (exfalso; omega)
                 | (exact v_vret hz hr dX0_walkSteps_283 ⟨hF, hO, k, ⟨by rw [hpos, show i = S.1 by omega, show j = T.1 by omega], hns⟩, by omega, h7, h8, hA⟩)
               · first
                 | (exfalso; omega)
                 | (refine v_aload hz dX0_walkSteps_239 rfl ?_
                    refine v_ic (v := nI 2) hz dX0_walkSteps_241 (by decide) ?_
                    refine v_aload_n hz dX0_walkSteps_242 rfl ?_
                    refine v_getR hz fX0_77 (by assumption) (by assumption) dX0_walkSteps_243 ?_
                    refine v_iload hz dX0_walkSteps_246 rfl ?_
                    refine v_aaldN hz (by omega) (by assumption) (by omega) (by decide) (trow j (by omega)).1 dX0_walkSteps_248 ?_
                    refine v_iload_n hz dX0_walkSteps_249 rfl ?_
                    have hsk := (trow j (by omega)).2.1
                    refine v_callVi hz lX0_96 (cX6_cost_ok _ _ _ _ _ _ A _ (trow j (by omega)).2 _ w (g2.2.2.2 j (by omega)).1 (g2.2.2.2 j (by omega)).2.1) (by assumption) rfl rfl (Nat.le_of_ble_eq_true rfl) (by decide) ⟨Nat.zero_le _, Nat.zero_le _⟩ dX0_walkSteps_250 (fun r I1 h250 => ?_)
                    obtain ⟨rfl, rfl⟩ := h250
                    refine v_ic (v := (-1)) hz dX0_walkSteps_253 (by decide) ?_
                    refine v_iload hz dX0_walkSteps_254 rfl ?_
                    refine v_aload_n hz dX0_walkSteps_256 rfl ?_
                    refine v_getR hz fX0_77 (by assumption) (by assumption) dX0_walkSteps_257 ?_
                    refine v_iload hz dX0_walkSteps_260 rfl ?_
                    refine v_aaldN hz (by omega) (by assumption) (by omega) (by decide) (trow j (by omega)).1 dX0_walkSteps_262 ?_
                    refine v_callVi hz lX0_85 (cX6_isWord_ok _ _ _ _ _ _ A _ (trow j (by omega)).2 (T.2.1 j) (g2.2.2.2 j (by omega)).1 (g2.2.2.2 j (by omega)).2.1) (by assumption) rfl rfl (Nat.le_of_ble_eq_true rfl) (by decide) ⟨Nat.zero_le _, Nat.zero_le _⟩ dX0_walkSteps_263 (fun r I1 h263 => ?_)
                    obtain ⟨rfl, rfl⟩ := h263
                    refine v_join 274 (bz (T.2.1 j = 0)) (fun hj => ?_) ?_
                    · first | with_reducible refine v_if_neB hz 273 dX0_walkSteps_266 (by decide) (fun c266 => ?_) (fun c266 => ?_) | with_reducible refine v_if_neN hz 273 (by omega) dX0_walkSteps_266 (by decide) (fun c266 => ?_) (fun c266 => ?_) | refine v_if_ne hz 273 dX0_walkSteps_266 (by decide) (fun c266 => ?_) (fun c266 => ?_)
                      · refine v_ic (v := nI 0) hz dX0_walkSteps_273 (by decide) ?_
                        exact v_top (by first | exact (bz_t (by omega)).symm | exact (bz_f (by omega)).symm) hj
                      · refine v_ic (v := nI 1) hz dX0_walkSteps_269 (by decide) ?_
                        refine v_goto hz 274 dX0_walkSteps_270 (by decide) ?_
                        exact v_top (by first | exact (bz_t (by omega)).symm | exact (bz_f (by omega)).symm) hj
                    refine v_callVv hz lX0_103 (cX1_addStep_ok _ _ _ _ _ _ A cb hc k (ttg w S T k) (cst w (T.2.1 j)) _ _ _ (T.2.1 j = 0) (by omega) (by omega) h7 h8) (by assumption) rfl rfl (Nat.le_of_ble_eq_true rfl) (by decide) ⟨Nat.zero_le _, Nat.zero_le _⟩ dX0_walkSteps_274 (fun I1 h274 => ?_)
                    obtain ⟨y7, y8, yO, yF, y1, y2, y3, y4⟩ := aS_all hc h8 h274
                    first | refine v_iincN hz 1 dX0_walkSteps_277 (by decide) rfl (by decide) rfl ?_ | refine v_iinc hz dX0_walkSteps_277 rfl (by decide) rfl ?_
                    refine v_goto hz 284 dX0_walkSteps_280 (by decide) ?_
                    first | refine v_iincN hz 1 dX0_walkSteps_284 (by decide) rfl (by decide) rfl ?_ | refine v_iinc hz dX0_walkSteps_284 rfl (by decide) rfl ?_
                    refine v_goto hz 14 dX0_walkSteps_287 (by decide) ?_
                    first | exact v_sub (ih (k + 1) (i + 1) (j + 1) _ (by omega) (by omega) (by omega) (by omega) (sv0 hpos (kn0 (by omega) (by omega) (Classical.not_not.mp c98).symm)).2 (fun q hq => by rcases Nat.lt_succ_iff_lt_or_eq.mp hq with e | e; exact hns q e; rw [e, hpos]; intro e2; have := congrArg Prod.fst e2; have := congrArg Prod.snd e2; simp only at *; omega) y7 (by rw [y8]; exact congrArg nI (tt_s hpos (sc0 hpos (kn0 (by omega) (by omega) (Classical.not_not.mp c98).symm)) (by rw [(kn0 (by omega) (by omega) (Classical.not_not.mp c98).symm)]; simp))) (hA.put (sv0 hpos (kn0 (by omega) (by omega) (Classical.not_not.mp c98).symm)).1 y1 y2 y3 y4) (hF.tr yF) (fun f f1 f2 => (yO f f1 f2).trans (hO f f1 f2))) ⟨rfl, rfl, rfl, rfl, rfl, rfl, rfl, rfl, trivial⟩ | exact v_sub (ih (k + 1) (i + 1) j _ (by omega) (by omega) (by omega) (by omega) (sv1 hpos (kn1 (fun q => c98 q.2.2.symm) (by omega) (Classical.not_not.mp c187).symm)).2 (fun q hq => by rcases Nat.lt_succ_iff_lt_or_eq.mp hq with e | e; exact hns q e; rw [e, hpos]; intro e2; have := congrArg Prod.fst e2; have := congrArg Prod.snd e2; simp only at *; omega) y7 (by rw [y8]; exact congrArg nI (tt_s hpos (sc1 hpos (kn1 (fun q => c98 q.2.2.symm) (by omega) (Classical.not_not.mp c187).symm)) (by rw [(kn1 (fun q => c98 q.2.2.symm) (by omega) (Classical.not_not.mp c187).symm)]; simp))) (hA.put (sv1 hpos (kn1 (fun q => c98 q.2.2.symm) (by omega) (Classical.not_not.mp c187).symm)).1 y1 y2 y3 y4) (hF.tr yF) (fun f f1 f2 => (yO f f1 f2).trans (hO f f1 f2))) ⟨rfl, rfl, rfl, rfl, rfl, rfl, rfl, rfl, trivial⟩ | exact v_sub (ih (k + 1) (i + 1) j _ (by omega) (by omega) (by omega) (by omega) (sv1 hpos (kn1 (fun q => absurd q.2.1 (by omega)) (by omega) (Classical.not_not.mp c187).symm)).2 (fun q hq => by rcases Nat.lt_succ_iff_lt_or_eq.mp hq with e | e; exact hns q e; rw [e, hpos]; intro e2; have := congrArg Prod.fst e2; have := congrArg Prod.snd e2; simp only at *; omega) y7 (by rw [y8]; exact congrArg nI (tt_s hpos (sc1 hpos (kn1 (fun q => absurd q.2.1 (by omega)) (by omega) (Classical.not_not.mp c187).symm)) (by rw [(kn1 (fun q => absurd q.2.1 (by omega)) (by omega) (Classical.not_not.mp c187).symm)]; simp))) (hA.put (sv1 hpos (kn1 (fun q => absurd q.2.1 (by omega)) (by omega) (Classical.not_not.mp c187).symm)).1 y1 y2 y3 y4) (hF.tr yF) (fun f f1 f2 => (yO f f1 f2).trans (hO f f1 f2))) ⟨rfl, rfl, rfl, rfl, rfl, rfl, rfl, rfl, trivial⟩ | exact v_sub (ih (k + 1) i (j + 1) _ (by omega) (by omega) (by omega) (by omega) (sv2 hpos (kn2 (fun q => c98 q.2.2.symm) (fun q => c187 q.2.symm))).2 (fun q hq => by rcases Nat.lt_succ_iff_lt_or_eq.mp hq with e | e; exact hns q e; rw [e, hpos]; intro e2; have := congrArg Prod.fst e2; have := congrArg Prod.snd e2; simp only at *; omega) y7 (by rw [y8]; exact congrArg nI (tt_s hpos (sc2 hpos (kn2 (fun q => c98 q.2.2.symm) (fun q => c187 q.2.symm))) (by rw [(kn2 (fun q => c98 q.2.2.symm) (fun q => c187 q.2.symm))]; simp))) (hA.put (sv2 hpos (kn2 (fun q => c98 q.2.2.symm) (fun q => c187 q.2.symm))).1 y1 y2 y3 y4) (hF.tr yF) (fun f f1 f2 => (yO f f1 f2).trans (hO f f1 f2))) ⟨rfl, rfl, rfl, rfl, rfl, rfl, rfl, rfl, trivial⟩ | exact v_sub (ih (k + 1) i (j + 1) _ (by omega) (by omega) (by omega) (by omega) (sv2 hpos (kn2 (fun q => c98 q.2.2.symm) (fun q => absurd q.1 (by omega)))).2 (fun q hq => by rcases Nat.lt_succ_iff_lt_or_eq.mp hq with e | e; exact hns q e; rw [e, hpos]; intro e2; have := congrArg Prod.fst e2; have := congrArg Prod.snd e2; simp only at *; omega) y7 (by rw [y8]; exact congrArg nI (tt_s hpos (sc2 hpos (kn2 (fun q => c98 q.2.2.symm) (fun q => absurd q.1 (by omega)))) (by rw [(kn2 (fun q => c98 q.2.2.symm) (fun q => absurd q.1 (by omega)))]; simp))) (hA.put (sv2 hpos (kn2 (fun q => c98 q.2.2.symm) (fun q => absurd q.1 (by omega)))).1 y1 y2 y3 y4) (hF.tr yF) (fun f f1 f2 => (yO f f1 f2).trans (hO f f1 f2))) ⟨rfl, rfl, rfl, rfl, rfl, rfl, rfl, rfl, trivial⟩ | exact v_sub (ih (k + 1) i (j + 1) _ (by omega) (by omega) (by omega) (by omega) (sv2 hpos (kn2 (fun q => absurd q.2.1 (by omega)) (fun q => c187 q.2.symm))).2 (fun q hq => by rcases Nat.lt_succ_iff_lt_or_eq.mp hq with e | e; exact hns q e; rw [e, hpos]; intro e2; have := congrArg Prod.fst e2; have := congrArg Prod.snd e2; simp only at *; omega) y7 (by rw [y8]; exact congrArg nI (tt_s hpos (sc2 hpos (kn2 (fun q => absurd q.2.1 (by omega)) (fun q => c187 q.2.symm))) (by rw [(kn2 (fun q => absurd q.2.1 (by omega)) (fun q => c187 q.2.symm))]; simp))) (hA.put (sv2 hpos (kn2 (fun q => absurd q.2.1 (by omega)) (fun q => c187 q.2.symm))).1 y1 y2 y3 y4) (hF.tr yF) (fun f f1 f2 => (yO f f1 f2).trans (hO f f1 f2))) ⟨rfl, rfl, rfl, rfl, rfl, rfl, rfl, rfl, trivial⟩ | exact v_sub (ih (k + 1) i (j + 1) _ (by omega) (by omega) (by omega) (by omega) (sv2 hpos (kn2 (fun q => absurd q.2.1 (by omega)) (fun q => absurd q.1 (by omega)))).2 (fun q hq => by rcases Nat.lt_succ_iff_lt_or_eq.mp hq with e | e; exact hns q e; rw [e, hpos]; intro e2; have := congrArg Prod.fst e2; have := congrArg Prod.snd e2; simp only at *; omega) y7 (by rw [y8]; exact congrArg nI (tt_s hpos (sc2 hpos (kn2 (fun q => absurd q.2.1 (by omega)) (fun q => absurd q.1 (by omega)))) (by rw [(kn2 (fun q => absurd q.2.1 (by omega)) (fun q => absurd q.1 (by omega)))]; simp))) (hA.put (sv2 hpos (kn2 (fun q => absurd q.2.1 (by omega)) (fun q => absurd q.1 (by omega)))).1 y1 y2 y3 y4) (hF.tr yF) (fun f f1 f2 => (yO f f1 f2).trans (hO f f1 f2))) ⟨rfl, rfl, rfl, rfl, rfl, rfl, rfl, rfl, trivial⟩ | exact v_sub (ih (k + 1) i (j + 1) _ (by omega) (by omega) (by omega) (by omega) (sv2 hpos (kn2 (fun q => absurd q.1 (by omega)) (fun q => c187 q.2.symm))).2 (fun q hq => by rcases Nat.lt_succ_iff_lt_or_eq.mp hq with e | e; exact hns q e; rw [e, hpos]; intro e2; have := congrArg Prod.fst e2; have := congrArg Prod.snd e2; simp only at *; omega) y7 (by rw [y8]; exact congrArg nI (tt_s hpos (sc2 hpos (kn2 (fun q => absurd q.1 (by omega)) (fun q => c187 q.2.symm))) (by rw [(kn2 (fun q => absurd q.1 (by omega)) (fun q => c187 q.2.symm))]; simp))) (hA.put (sv2 hpos (kn2 (fun q => absurd q.1 (by omega)) (fun q => c187 q.2.symm))).1 y1 y2 y3 y4) (hF.tr yF) (fun f f1 f2 => (yO f f1 f2).trans (hO f f1 f2))) ⟨rfl, rfl, rfl, rfl, rfl, rfl, rfl, rfl, trivial⟩ | exact v_sub (ih (k + 1) i (j + 1) _ (by omega) (by omega) (by omega) (by omega) (sv2 hpos (kn2 (fun q => absurd q.1 (by omega)) (fun q => absurd q.1 (by omega)))).2 (fun q hq => by rcases Nat.lt_succ_iff_lt_or_eq.mp hq with e | e; exact hns q e; rw [e, hpos]; intro e2; have := congrArg Prod.fst e2; have := congrArg Prod.snd e2; simp only at *; omega) y7 (by rw [y8]; exact congrArg nI (tt_s hpos (sc2 hpos (kn2 (fun q => absurd q.1 (by omega)) (fun q => absurd q.1 (by omega)))) (by rw [(kn2 (fun q => absurd q.1 (by omega)) (fun q => absurd q.1 (by omega)))]; simp))) (hA.put (sv2 hpos (kn2 (fun q => absurd q.1 (by omega)) (fun q => absurd q.1 (by omega)))).1 y1 y2 y3 y4) (hF.tr yF) (fun f f1 f2 => (yO f f1 f2).trans (hO f f1 f2))) ⟨rfl, rfl, rfl, rfl, rfl, rfl, rfl, rfl, trivial⟩))
          · first
            | (exfalso; omega)
            | (refine v_aload_n hz dX0_walkSteps_153 rfl ?_
               refine v_getR hz fX0_16 (by assumption) (by assumption) dX0_walkSteps_154 ?_
               refine v_iload hz dX0_walkSteps_157 rfl ?_
               refine v_aaldN hz (by omega) (by assumption) (by omega) (by decide) (hrr i (by omega)).1 dX0_walkSteps_159 ?_
               obtain ⟨-, raK, raN, raO⟩ := hrr i (by omega)
               refine v_iload hz dX0_walkSteps_160 rfl ?_
               refine v_ialdN hz (by assumption) (by assumption) (by omega) (by decide) dX0_walkSteps_162 ?_
               refine v_top (y := nI (pay w S T i j)) (by rw [rr i (by omega)]; exact hre i j (by omega) (by omega) trivial) ?_
               refine v_aload_n hz dX0_walkSteps_163 rfl ?_
               refine v_getR hz fX0_77 (by assumption) (by assumption) dX0_walkSteps_164 ?_
               refine v_iload hz dX0_walkSteps_167 rfl ?_
               refine v_aaldN hz (by omega) (by assumption) (by omega) (by decide) (srow i (by omega)).1 dX0_walkSteps_169 ?_
               refine v_iload_n hz dX0_walkSteps_170 rfl ?_
               have hsk := (srow i (by omega)).2.1
               refine v_callVi hz lX0_96 (cX6_cost_ok _ _ _ _ _ _ A _ (srow i (by omega)).2 _ w (g1.2.2.2 i (by omega)).1 (g1.2.2.2 i (by omega)).2.1) (by assumption) rfl rfl (Nat.le_of_ble_eq_true rfl) (by decide) ⟨Nat.zero_le _, Nat.zero_le _⟩ dX0_walkSteps_171 (fun r I1 h171 => ?_)
               obtain ⟨rfl, rfl⟩ := h171
               refine v_aload_n hz dX0_walkSteps_174 rfl ?_
               refine v_getR hz fX0_16 (by assumption) (by assumption) dX0_walkSteps_175 ?_
               refine v_iload hz dX0_walkSteps_178 rfl ?_
               refine v_ic (v := nI 1) hz dX0_walkSteps_180 (by decide) ?_
               first | with_reducible refine v_iaddN hz dX0_walkSteps_181 ?_ | refine v_iadd hz dX0_walkSteps_181 ?_
               refine v_aaldN hz (by omega) (by assumption) (by omega) (by decide) (hrr (i + 1) (by omega)).1 dX0_walkSteps_182 ?_
               obtain ⟨-, rcK, rcN, rcO⟩ := hrr (i + 1) (by omega)
               refine v_iload hz dX0_walkSteps_183 rfl ?_
               refine v_ialdN hz (by assumption) (by assumption) (by omega) (by decide) dX0_walkSteps_185 ?_
               refine v_top (y := nI (pay w S T (i + 1) j)) (by rw [rr (i + 1) (by omega)]; exact hre (i + 1) j (by omega) (by omega) trivial) ?_
               first | with_reducible refine v_iaddN hz dX0_walkSteps_186 ?_ | refine v_iadd hz dX0_walkSteps_186 ?_
               first | with_reducible refine v_icmp_neN hz 234 (by omega) (by omega) dX0_walkSteps_187 (by decide) (fun c187 => ?_) (fun c187 => ?_) | refine v_icmp_ne hz 234 dX0_walkSteps_187 (by decide) (fun c187 => ?_) (fun c187 => ?_)
               · first
                 | (exfalso; omega)
                 | (refine v_iload hz dX0_walkSteps_234 rfl ?_
                    first | with_reducible refine v_if_eqB hz 283 dX0_walkSteps_236 (by decide) (fun c236 => ?_) (fun c236 => ?_) | with_reducible refine v_if_eqN hz 283 (by omega) dX0_walkSteps_236 (by decide) (fun c236 => ?_) (fun c236 => ?_) | refine v_if_eq hz 283 dX0_walkSteps_236 (by decide) (fun c236 => ?_) (fun c236 => ?_)
                    · first
                      | (exfalso; omega)
                      | (exact v_vret hz hr dX0_walkSteps_283 ⟨hF, hO, k, ⟨by rw [hpos, show i = S.1 by omega, show j = T.1 by omega], hns⟩, by omega, h7, h8, hA⟩)
                    · first
                      | (exfalso; omega)
                      | (refine v_aload hz dX0_walkSteps_239 rfl ?_
                         refine v_ic (v := nI 2) hz dX0_walkSteps_241 (by decide) ?_
                         refine v_aload_n hz dX0_walkSteps_242 rfl ?_
                         refine v_getR hz fX0_77 (by assumption) (by assumption) dX0_walkSteps_243 ?_
                         refine v_iload hz dX0_walkSteps_246 rfl ?_
                         refine v_aaldN hz (by omega) (by assumption) (by omega) (by decide) (trow j (by omega)).1 dX0_walkSteps_248 ?_
                         refine v_iload_n hz dX0_walkSteps_249 rfl ?_
                         have hsk := (trow j (by omega)).2.1
                         refine v_callVi hz lX0_96 (cX6_cost_ok _ _ _ _ _ _ A _ (trow j (by omega)).2 _ w (g2.2.2.2 j (by omega)).1 (g2.2.2.2 j (by omega)).2.1) (by assumption) rfl rfl (Nat.le_of_ble_eq_true rfl) (by decide) ⟨Nat.zero_le _, Nat.zero_le _⟩ dX0_walkSteps_250 (fun r I1 h250 => ?_)
                         obtain ⟨rfl, rfl⟩ := h250
                         refine v_ic (v := (-1)) hz dX0_walkSteps_253 (by decide) ?_
                         refine v_iload hz dX0_walkSteps_254 rfl ?_
                         refine v_aload_n hz dX0_walkSteps_256 rfl ?_
                         refine v_getR hz fX0_77 (by assumption) (by assumption) dX0_walkSteps_257 ?_
                         refine v_iload hz dX0_walkSteps_260 rfl ?_
                         refine v_aaldN hz (by omega) (by assumption) (by omega) (by decide) (trow j (by omega)).1 dX0_walkSteps_262 ?_
                         refine v_callVi hz lX0_85 (cX6_isWord_ok _ _ _ _ _ _ A _ (trow j (by omega)).2 (T.2.1 j) (g2.2.2.2 j (by omega)).1 (g2.2.2.2 j (by omega)).2.1) (by assumption) rfl rfl (Nat.le_of_ble_eq_true rfl) (by decide) ⟨Nat.zero_le _, Nat.zero_le _⟩ dX0_walkSteps_263 (fun r I1 h263 => ?_)
                         obtain ⟨rfl, rfl⟩ := h263
                         refine v_join 274 (bz (T.2.1 j = 0)) (fun hj => ?_) ?_
                         · first | with_reducible refine v_if_neB hz 273 dX0_walkSteps_266 (by decide) (fun c266 => ?_) (fun c266 => ?_) | with_reducible refine v_if_neN hz 273 (by omega) dX0_walkSteps_266 (by decide) (fun c266 => ?_) (fun c266 => ?_) | refine v_if_ne hz 273 dX0_walkSteps_266 (by decide) (fun c266 => ?_) (fun c266 => ?_)
                           · refine v_ic (v := nI 0) hz dX0_walkSteps_273 (by decide) ?_
                             exact v_top (by first | exact (bz_t (by omega)).symm | exact (bz_f (by omega)).symm) hj
                           · refine v_ic (v := nI 1) hz dX0_walkSteps_269 (by decide) ?_
                             refine v_goto hz 274 dX0_walkSteps_270 (by decide) ?_
                             exact v_top (by first | exact (bz_t (by omega)).symm | exact (bz_f (by omega)).symm) hj
                         refine v_callVv hz lX0_103 (cX1_addStep_ok _ _ _ _ _ _ A cb hc k (ttg w S T k) (cst w (T.2.1 j)) _ _ _ (T.2.1 j = 0) (by omega) (by omega) h7 h8) (by assumption) rfl rfl (Nat.le_of_ble_eq_true rfl) (by decide) ⟨Nat.zero_le _, Nat.zero_le _⟩ dX0_walkSteps_274 (fun I1 h274 => ?_)
                         obtain ⟨y7, y8, yO, yF, y1, y2, y3, y4⟩ := aS_all hc h8 h274
                         first | refine v_iincN hz 1 dX0_walkSteps_277 (by decide) rfl (by decide) rfl ?_ | refine v_iinc hz dX0_walkSteps_277 rfl (by decide) rfl ?_
                         refine v_goto hz 284 dX0_walkSteps_280 (by decide) ?_
                         first | refine v_iincN hz 1 dX0_walkSteps_284 (by decide) rfl (by decide) rfl ?_ | refine v_iinc hz dX0_walkSteps_284 rfl (by decide) rfl ?_
                         refine v_goto hz 14 dX0_walkSteps_287 (by decide) ?_
                         first | exact v_sub (ih (k + 1) (i + 1) (j + 1) _ (by omega) (by omega) (by omega) (by omega) (sv0 hpos (kn0 (by omega) (by omega) (Classical.not_not.mp c98).symm)).2 (fun q hq => by rcases Nat.lt_succ_iff_lt_or_eq.mp hq with e | e; exact hns q e; rw [e, hpos]; intro e2; have := congrArg Prod.fst e2; have := congrArg Prod.snd e2; simp only at *; omega) y7 (by rw [y8]; exact congrArg nI (tt_s hpos (sc0 hpos (kn0 (by omega) (by omega) (Classical.not_not.mp c98).symm)) (by rw [(kn0 (by omega) (by omega) (Classical.not_not.mp c98).symm)]; simp))) (hA.put (sv0 hpos (kn0 (by omega) (by omega) (Classical.not_not.mp c98).symm)).1 y1 y2 y3 y4) (hF.tr yF) (fun f f1 f2 => (yO f f1 f2).trans (hO f f1 f2))) ⟨rfl, rfl, rfl, rfl, rfl, rfl, rfl, rfl, trivial⟩ | exact v_sub (ih (k + 1) (i + 1) j _ (by omega) (by omega) (by omega) (by omega) (sv1 hpos (kn1 (fun q => c98 q.2.2.symm) (by omega) (Classical.not_not.mp c187).symm)).2 (fun q hq => by rcases Nat.lt_succ_iff_lt_or_eq.mp hq with e | e; exact hns q e; rw [e, hpos]; intro e2; have := congrArg Prod.fst e2; have := congrArg Prod.snd e2; simp only at *; omega) y7 (by rw [y8]; exact congrArg nI (tt_s hpos (sc1 hpos (kn1 (fun q => c98 q.2.2.symm) (by omega) (Classical.not_not.mp c187).symm)) (by rw [(kn1 (fun q => c98 q.2.2.symm) (by omega) (Classical.not_not.mp c187).symm)]; simp))) (hA.put (sv1 hpos (kn1 (fun q => c98 q.2.2.symm) (by omega) (Classical.not_not.mp c187).symm)).1 y1 y2 y3 y4) (hF.tr yF) (fun f f1 f2 => (yO f f1 f2).trans (hO f f1 f2))) ⟨rfl, rfl, rfl, rfl, rfl, rfl, rfl, rfl, trivial⟩ | exact v_sub (ih (k + 1) (i + 1) j _ (by omega) (by omega) (by omega) (by omega) (sv1 hpos (kn1 (fun q => absurd q.2.1 (by omega)) (by omega) (Classical.not_not.mp c187).symm)).2 (fun q hq => by rcases Nat.lt_succ_iff_lt_or_eq.mp hq with e | e; exact hns q e; rw [e, hpos]; intro e2; have := congrArg Prod.fst e2; have := congrArg Prod.snd e2; simp only at *; omega) y7 (by rw [y8]; exact congrArg nI (tt_s hpos (sc1 hpos (kn1 (fun q => absurd q.2.1 (by omega)) (by omega) (Classical.not_not.mp c187).symm)) (by rw [(kn1 (fun q => absurd q.2.1 (by omega)) (by omega) (Classical.not_not.mp c187).symm)]; simp))) (hA.put (sv1 hpos (kn1 (fun q => absurd q.2.1 (by omega)) (by omega) (Classical.not_not.mp c187).symm)).1 y1 y2 y3 y4) (hF.tr yF) (fun f f1 f2 => (yO f f1 f2).trans (hO f f1 f2))) ⟨rfl, rfl, rfl, rfl, rfl, rfl, rfl, rfl, trivial⟩ | exact v_sub (ih (k + 1) i (j + 1) _ (by omega) (by omega) (by omega) (by omega) (sv2 hpos (kn2 (fun q => c98 q.2.2.symm) (fun q => c187 q.2.symm))).2 (fun q hq => by rcases Nat.lt_succ_iff_lt_or_eq.mp hq with e | e; exact hns q e; rw [e, hpos]; intro e2; have := congrArg Prod.fst e2; have := congrArg Prod.snd e2; simp only at *; omega) y7 (by rw [y8]; exact congrArg nI (tt_s hpos (sc2 hpos (kn2 (fun q => c98 q.2.2.symm) (fun q => c187 q.2.symm))) (by rw [(kn2 (fun q => c98 q.2.2.symm) (fun q => c187 q.2.symm))]; simp))) (hA.put (sv2 hpos (kn2 (fun q => c98 q.2.2.symm) (fun q => c187 q.2.symm))).1 y1 y2 y3 y4) (hF.tr yF) (fun f f1 f2 => (yO f f1 f2).trans (hO f f1 f2))) ⟨rfl, rfl, rfl, rfl, rfl, rfl, rfl, rfl, trivial⟩ | exact v_sub (ih (k + 1) i (j + 1) _ (by omega) (by omega) (by omega) (by omega) (sv2 hpos (kn2 (fun q => c98 q.2.2.symm) (fun q => absurd q.1 (by omega)))).2 (fun q hq => by rcases Nat.lt_succ_iff_lt_or_eq.mp hq with e | e; exact hns q e; rw [e, hpos]; intro e2; have := congrArg Prod.fst e2; have := congrArg Prod.snd e2; simp only at *; omega) y7 (by rw [y8]; exact congrArg nI (tt_s hpos (sc2 hpos (kn2 (fun q => c98 q.2.2.symm) (fun q => absurd q.1 (by omega)))) (by rw [(kn2 (fun q => c98 q.2.2.symm) (fun q => absurd q.1 (by omega)))]; simp))) (hA.put (sv2 hpos (kn2 (fun q => c98 q.2.2.symm) (fun q => absurd q.1 (by omega)))).1 y1 y2 y3 y4) (hF.tr yF) (fun f f1 f2 => (yO f f1 f2).trans (hO f f1 f2))) ⟨rfl, rfl, rfl, rfl, rfl, rfl, rfl, rfl, trivial⟩ | exact v_sub (ih (k + 1) i (j + 1) _ (by omega) (by omega) (by omega) (by omega) (sv2 hpos (kn2 (fun q => absurd q.2.1 (by omega)) (fun q => c187 q.2.symm))).2 (fun q hq => by rcases Nat.lt_succ_iff_lt_or_eq.mp hq with e | e; exact hns q e; rw [e, hpos]; intro e2; have := congrArg Prod.fst e2; have := congrArg Prod.snd e2; simp only at *; omega) y7 (by rw [y8]; exact congrArg nI (tt_s hpos (sc2 hpos (kn2 (fun q => absurd q.2.1 (by omega)) (fun q => c187 q.2.symm))) (by rw [(kn2 (fun q => absurd q.2.1 (by omega)) (fun q => c187 q.2.symm))]; simp))) (hA.put (sv2 hpos (kn2 (fun q => absurd q.2.1 (by omega)) (fun q => c187 q.2.symm))).1 y1 y2 y3 y4) (hF.tr yF) (fun f f1 f2 => (yO f f1 f2).trans (hO f f1 f2))) ⟨rfl, rfl, rfl, rfl, rfl, rfl, rfl, rfl, trivial⟩ | exact v_sub (ih (k + 1) i (j + 1) _ (by omega) (by omega) (by omega) (by omega) (sv2 hpos (kn2 (fun q => absurd q.2.1 (by omega)) (fun q => absurd q.1 (by omega)))).2 (fun q hq => by rcases Nat.lt_succ_iff_lt_or_eq.mp hq with e | e; exact hns q e; rw [e, hpos]; intro e2; have := congrArg Prod.fst e2; have := congrArg Prod.snd e2; simp only at *; omega) y7 (by rw [y8]; exact congrArg nI (tt_s hpos (sc2 hpos (kn2 (fun q => absurd q.2.1 (by omega)) (fun q => absurd q.1 (by omega)))) (by rw [(kn2 (fun q => absurd q.2.1 (by omega)) (fun q => absurd q.1 (by omega)))]; simp))) (hA.put (sv2 hpos (kn2 (fun q => absurd q.2.1 (by omega)) (fun q => absurd q.1 (by omega)))).1 y1 y2 y3 y4) (hF.tr yF) (fun f f1 f2 => (yO f f1 f2).trans (hO f f1 f2))) ⟨rfl, rfl, rfl, rfl, rfl, rfl, rfl, rfl, trivial⟩ | exact v_sub (ih (k + 1) i (j + 1) _ (by omega) (by omega) (by omega) (by omega) (sv2 hpos (kn2 (fun q => absurd q.1 (by omega)) (fun q => c187 q.2.symm))).2 (fun q hq => by rcases Nat.lt_succ_iff_lt_or_eq.mp hq with e | e; exact hns q e; rw [e, hpos]; intro e2; have := congrArg Prod.fst e2; have := congrArg Prod.snd e2; simp only at *; omega) y7 (by rw [y8]; exact congrArg nI (tt_s hpos (sc2 hpos (kn2 (fun q => absurd q.1 (by omega)) (fun q => c187 q.2.symm))) (by rw [(kn2 (fun q => absurd q.1 (by omega)) (fun q => c187 q.2.symm))]; simp))) (hA.put (sv2 hpos (kn2 (fun q => absurd q.1 (by omega)) (fun q => c187 q.2.symm))).1 y1 y2 y3 y4) (hF.tr yF) (fun f f1 f2 => (yO f f1 f2).trans (hO f f1 f2))) ⟨rfl, rfl, rfl, rfl, rfl, rfl, rfl, rfl, trivial⟩ | exact v_sub (ih (k + 1) i (j + 1) _ (by omega) (by omega) (by omega) (by omega) (sv2 hpos (kn2 (fun q => absurd q.1 (by omega)) (fun q => absurd q.1 (by omega)))).2 (fun q hq => by rcases Nat.lt_succ_iff_lt_or_eq.mp hq with e | e; exact hns q e; rw [e, hpos]; intro e2; have := congrArg Prod.fst e2; have := congrArg Prod.snd e2; simp only at *; omega) y7 (by rw [y8]; exact congrArg nI (tt_s hpos (sc2 hpos (kn2 (fun q => absurd q.1 (by omega)) (fun q => absurd q.1 (by omega)))) (by rw [(kn2 (fun q => absurd q.1 (by omega)) (fun q => absurd q.1 (by omega)))]; simp))) (hA.put (sv2 hpos (kn2 (fun q => absurd q.1 (by omega)) (fun q => absurd q.1 (by omega)))).1 y1 y2 y3 y4) (hF.tr yF) (fun f f1 f2 => (yO f f1 f2).trans (hO f f1 f2))) ⟨rfl, rfl, rfl, rfl, rfl, rfl, rfl, rfl, trivial⟩))
               · first
                 | (exfalso; omega)
                 | (refine v_aload hz dX0_walkSteps_190 rfl ?_
                    refine v_ic (v := nI 1) hz dX0_walkSteps_192 (by decide) ?_
                    refine v_aload_n hz dX0_walkSteps_193 rfl ?_
                    refine v_getR hz fX0_77 (by assumption) (by assumption) dX0_walkSteps_194 ?_
                    refine v_iload hz dX0_walkSteps_197 rfl ?_
                    refine v_aaldN hz (by omega) (by assumption) (by omega) (by decide) (srow i (by omega)).1 dX0_walkSteps_199 ?_
                    refine v_iload_n hz dX0_walkSteps_200 rfl ?_
                    refine v_callVi hz lX0_96 (cX6_cost_ok _ _ _ _ _ _ A _ (srow i (by omega)).2 _ w (g1.2.2.2 i (by omega)).1 (g1.2.2.2 i (by omega)).2.1) (by assumption) rfl rfl (Nat.le_of_ble_eq_true rfl) (by decide) ⟨Nat.zero_le _, Nat.zero_le _⟩ dX0_walkSteps_201 (fun r I1 h201 => ?_)
                    obtain ⟨rfl, rfl⟩ := h201
                    refine v_iload hz dX0_walkSteps_204 rfl ?_
                    refine v_ic (v := (-1)) hz dX0_walkSteps_206 (by decide) ?_
                    refine v_aload_n hz dX0_walkSteps_207 rfl ?_
                    refine v_getR hz fX0_77 (by assumption) (by assumption) dX0_walkSteps_208 ?_
                    refine v_iload hz dX0_walkSteps_211 rfl ?_
                    refine v_aaldN hz (by omega) (by assumption) (by omega) (by decide) (srow i (by omega)).1 dX0_walkSteps_213 ?_
                    refine v_callVi hz lX0_85 (cX6_isWord_ok _ _ _ _ _ _ A _ (srow i (by omega)).2 (S.2.1 i) (g1.2.2.2 i (by omega)).1 (g1.2.2.2 i (by omega)).2.1) (by assumption) rfl rfl (Nat.le_of_ble_eq_true rfl) (by decide) ⟨Nat.zero_le _, Nat.zero_le _⟩ dX0_walkSteps_214 (fun r I1 h214 => ?_)
                    obtain ⟨rfl, rfl⟩ := h214
                    refine v_join 225 (bz (S.2.1 i = 0)) (fun hj => ?_) ?_
                    · first | with_reducible refine v_if_neB hz 224 dX0_walkSteps_217 (by decide) (fun c217 => ?_) (fun c217 => ?_) | with_reducible refine v_if_neN hz 224 (by omega) dX0_walkSteps_217 (by decide) (fun c217 => ?_) (fun c217 => ?_) | refine v_if_ne hz 224 dX0_walkSteps_217 (by decide) (fun c217 => ?_) (fun c217 => ?_)
                      · refine v_ic (v := nI 0) hz dX0_walkSteps_224 (by decide) ?_
                        exact v_top (by first | exact (bz_t (by omega)).symm | exact (bz_f (by omega)).symm) hj
                      · refine v_ic (v := nI 1) hz dX0_walkSteps_220 (by decide) ?_
                        refine v_goto hz 225 dX0_walkSteps_221 (by decide) ?_
                        exact v_top (by first | exact (bz_t (by omega)).symm | exact (bz_f (by omega)).symm) hj
                    refine v_callVv hz lX0_103 (cX1_addStep_ok _ _ _ _ _ _ A cb hc k (ttg w S T k) (cst w (S.2.1 i)) _ _ _ (S.2.1 i = 0) (by omega) (by omega) h7 h8) (by assumption) rfl rfl (Nat.le_of_ble_eq_true rfl) (by decide) ⟨Nat.zero_le _, Nat.zero_le _⟩ dX0_walkSteps_225 (fun I1 h225 => ?_)
                    obtain ⟨y7, y8, yO, yF, y1, y2, y3, y4⟩ := aS_all hc h8 h225
                    first | refine v_iincN hz 1 dX0_walkSteps_228 (by decide) rfl (by decide) rfl ?_ | refine v_iinc hz dX0_walkSteps_228 rfl (by decide) rfl ?_
                    refine v_goto hz 284 dX0_walkSteps_231 (by decide) ?_
                    first | refine v_iincN hz 1 dX0_walkSteps_284 (by decide) rfl (by decide) rfl ?_ | refine v_iinc hz dX0_walkSteps_284 rfl (by decide) rfl ?_
                    refine v_goto hz 14 dX0_walkSteps_287 (by decide) ?_
                    first | exact v_sub (ih (k + 1) (i + 1) (j + 1) _ (by omega) (by omega) (by omega) (by omega) (sv0 hpos (kn0 (by omega) (by omega) (Classical.not_not.mp c98).symm)).2 (fun q hq => by rcases Nat.lt_succ_iff_lt_or_eq.mp hq with e | e; exact hns q e; rw [e, hpos]; intro e2; have := congrArg Prod.fst e2; have := congrArg Prod.snd e2; simp only at *; omega) y7 (by rw [y8]; exact congrArg nI (tt_s hpos (sc0 hpos (kn0 (by omega) (by omega) (Classical.not_not.mp c98).symm)) (by rw [(kn0 (by omega) (by omega) (Classical.not_not.mp c98).symm)]; simp))) (hA.put (sv0 hpos (kn0 (by omega) (by omega) (Classical.not_not.mp c98).symm)).1 y1 y2 y3 y4) (hF.tr yF) (fun f f1 f2 => (yO f f1 f2).trans (hO f f1 f2))) ⟨rfl, rfl, rfl, rfl, rfl, rfl, rfl, rfl, trivial⟩ | exact v_sub (ih (k + 1) (i + 1) j _ (by omega) (by omega) (by omega) (by omega) (sv1 hpos (kn1 (fun q => c98 q.2.2.symm) (by omega) (Classical.not_not.mp c187).symm)).2 (fun q hq => by rcases Nat.lt_succ_iff_lt_or_eq.mp hq with e | e; exact hns q e; rw [e, hpos]; intro e2; have := congrArg Prod.fst e2; have := congrArg Prod.snd e2; simp only at *; omega) y7 (by rw [y8]; exact congrArg nI (tt_s hpos (sc1 hpos (kn1 (fun q => c98 q.2.2.symm) (by omega) (Classical.not_not.mp c187).symm)) (by rw [(kn1 (fun q => c98 q.2.2.symm) (by omega) (Classical.not_not.mp c187).symm)]; simp))) (hA.put (sv1 hpos (kn1 (fun q => c98 q.2.2.symm) (by omega) (Classical.not_not.mp c187).symm)).1 y1 y2 y3 y4) (hF.tr yF) (fun f f1 f2 => (yO f f1 f2).trans (hO f f1 f2))) ⟨rfl, rfl, rfl, rfl, rfl, rfl, rfl, rfl, trivial⟩ | exact v_sub (ih (k + 1) (i + 1) j _ (by omega) (by omega) (by omega) (by omega) (sv1 hpos (kn1 (fun q => absurd q.2.1 (by omega)) (by omega) (Classical.not_not.mp c187).symm)).2 (fun q hq => by rcases Nat.lt_succ_iff_lt_or_eq.mp hq with e | e; exact hns q e; rw [e, hpos]; intro e2; have := congrArg Prod.fst e2; have := congrArg Prod.snd e2; simp only at *; omega) y7 (by rw [y8]; exact congrArg nI (tt_s hpos (sc1 hpos (kn1 (fun q => absurd q.2.1 (by omega)) (by omega) (Classical.not_not.mp c187).symm)) (by rw [(kn1 (fun q => absurd q.2.1 (by omega)) (by omega) (Classical.not_not.mp c187).symm)]; simp))) (hA.put (sv1 hpos (kn1 (fun q => absurd q.2.1 (by omega)) (by omega) (Classical.not_not.mp c187).symm)).1 y1 y2 y3 y4) (hF.tr yF) (fun f f1 f2 => (yO f f1 f2).trans (hO f f1 f2))) ⟨rfl, rfl, rfl, rfl, rfl, rfl, rfl, rfl, trivial⟩ | exact v_sub (ih (k + 1) i (j + 1) _ (by omega) (by omega) (by omega) (by omega) (sv2 hpos (kn2 (fun q => c98 q.2.2.symm) (fun q => c187 q.2.symm))).2 (fun q hq => by rcases Nat.lt_succ_iff_lt_or_eq.mp hq with e | e; exact hns q e; rw [e, hpos]; intro e2; have := congrArg Prod.fst e2; have := congrArg Prod.snd e2; simp only at *; omega) y7 (by rw [y8]; exact congrArg nI (tt_s hpos (sc2 hpos (kn2 (fun q => c98 q.2.2.symm) (fun q => c187 q.2.symm))) (by rw [(kn2 (fun q => c98 q.2.2.symm) (fun q => c187 q.2.symm))]; simp))) (hA.put (sv2 hpos (kn2 (fun q => c98 q.2.2.symm) (fun q => c187 q.2.symm))).1 y1 y2 y3 y4) (hF.tr yF) (fun f f1 f2 => (yO f f1 f2).trans (hO f f1 f2))) ⟨rfl, rfl, rfl, rfl, rfl, rfl, rfl, rfl, trivial⟩ | exact v_sub (ih (k + 1) i (j + 1) _ (by omega) (by omega) (by omega) (by omega) (sv2 hpos (kn2 (fun q => c98 q.2.2.symm) (fun q => absurd q.1 (by omega)))).2 (fun q hq => by rcases Nat.lt_succ_iff_lt_or_eq.mp hq with e | e; exact hns q e; rw [e, hpos]; intro e2; have := congrArg Prod.fst e2; have := congrArg Prod.snd e2; simp only at *; omega) y7 (by rw [y8]; exact congrArg nI (tt_s hpos (sc2 hpos (kn2 (fun q => c98 q.2.2.symm) (fun q => absurd q.1 (by omega)))) (by rw [(kn2 (fun q => c98 q.2.2.symm) (fun q => absurd q.1 (by omega)))]; simp))) (hA.put (sv2 hpos (kn2 (fun q => c98 q.2.2.symm) (fun q => absurd q.1 (by omega)))).1 y1 y2 y3 y4) (hF.tr yF) (fun f f1 f2 => (yO f f1 f2).trans (hO f f1 f2))) ⟨rfl, rfl, rfl, rfl, rfl, rfl, rfl, rfl, trivial⟩ | exact v_sub (ih (k + 1) i (j + 1) _ (by omega) (by omega) (by omega) (by omega) (sv2 hpos (kn2 (fun q => absurd q.2.1 (by omega)) (fun q => c187 q.2.symm))).2 (fun q hq => by rcases Nat.lt_succ_iff_lt_or_eq.mp hq with e | e; exact hns q e; rw [e, hpos]; intro e2; have := congrArg Prod.fst e2; have := congrArg Prod.snd e2; simp only at *; omega) y7 (by rw [y8]; exact congrArg nI (tt_s hpos (sc2 hpos (kn2 (fun q => absurd q.2.1 (by omega)) (fun q => c187 q.2.symm))) (by rw [(kn2 (fun q => absurd q.2.1 (by omega)) (fun q => c187 q.2.symm))]; simp))) (hA.put (sv2 hpos (kn2 (fun q => absurd q.2.1 (by omega)) (fun q => c187 q.2.symm))).1 y1 y2 y3 y4) (hF.tr yF) (fun f f1 f2 => (yO f f1 f2).trans (hO f f1 f2))) ⟨rfl, rfl, rfl, rfl, rfl, rfl, rfl, rfl, trivial⟩ | exact v_sub (ih (k + 1) i (j + 1) _ (by omega) (by omega) (by omega) (by omega) (sv2 hpos (kn2 (fun q => absurd q.2.1 (by omega)) (fun q => absurd q.1 (by omega)))).2 (fun q hq => by rcases Nat.lt_succ_iff_lt_or_eq.mp hq with e | e; exact hns q e; rw [e, hpos]; intro e2; have := congrArg Prod.fst e2; have := congrArg Prod.snd e2; simp only at *; omega) y7 (by rw [y8]; exact congrArg nI (tt_s hpos (sc2 hpos (kn2 (fun q => absurd q.2.1 (by omega)) (fun q => absurd q.1 (by omega)))) (by rw [(kn2 (fun q => absurd q.2.1 (by omega)) (fun q => absurd q.1 (by omega)))]; simp))) (hA.put (sv2 hpos (kn2 (fun q => absurd q.2.1 (by omega)) (fun q => absurd q.1 (by omega)))).1 y1 y2 y3 y4) (hF.tr yF) (fun f f1 f2 => (yO f f1 f2).trans (hO f f1 f2))) ⟨rfl, rfl, rfl, rfl, rfl, rfl, rfl, rfl, trivial⟩ | exact v_sub (ih (k + 1) i (j + 1) _ (by omega) (by omega) (by omega) (by omega) (sv2 hpos (kn2 (fun q => absurd q.1 (by omega)) (fun q => c187 q.2.symm))).2 (fun q hq => by rcases Nat.lt_succ_iff_lt_or_eq.mp hq with e | e; exact hns q e; rw [e, hpos]; intro e2; have := congrArg Prod.fst e2; have := congrArg Prod.snd e2; simp only at *; omega) y7 (by rw [y8]; exact congrArg nI (tt_s hpos (sc2 hpos (kn2 (fun q => absurd q.1 (by omega)) (fun q => c187 q.2.symm))) (by rw [(kn2 (fun q => absurd q.1 (by omega)) (fun q => c187 q.2.symm))]; simp))) (hA.put (sv2 hpos (kn2 (fun q => absurd q.1 (by omega)) (fun q => c187 q.2.symm))).1 y1 y2 y3 y4) (hF.tr yF) (fun f f1 f2 => (yO f f1 f2).trans (hO f f1 f2))) ⟨rfl, rfl, rfl, rfl, rfl, rfl, rfl, rfl, trivial⟩ | exact v_sub (ih (k + 1) i (j + 1) _ (by omega) (by omega) (by omega) (by omega) (sv2 hpos (kn2 (fun q => absurd q.1 (by omega)) (fun q => absurd q.1 (by omega)))).2 (fun q hq => by rcases Nat.lt_succ_iff_lt_or_eq.mp hq with e | e; exact hns q e; rw [e, hpos]; intro e2; have := congrArg Prod.fst e2; have := congrArg Prod.snd e2; simp only at *; omega) y7 (by rw [y8]; exact congrArg nI (tt_s hpos (sc2 hpos (kn2 (fun q => absurd q.1 (by omega)) (fun q => absurd q.1 (by omega)))) (by rw [(kn2 (fun q => absurd q.1 (by omega)) (fun q => absurd q.1 (by omega)))]; simp))) (hA.put (sv2 hpos (kn2 (fun q => absurd q.1 (by omega)) (fun q => absurd q.1 (by omega)))).1 y1 y2 y3 y4) (hF.tr yF) (fun f f1 f2 => (yO f f1 f2).trans (hO f f1 f2))) ⟨rfl, rfl, rfl, rfl, rfl, rfl, rfl, rfl, trivial⟩))
        · refine v_aload hz dX0_walkSteps_101 rfl ?_
          refine v_ic (v := nI 0) hz dX0_walkSteps_103 (by decide) ?_
          refine v_aload_n hz dX0_walkSteps_104 rfl ?_
          refine v_getR hz fX0_11 (by assumption) (by assumption) dX0_walkSteps_105 ?_
          refine v_iload hz dX0_walkSteps_108 rfl ?_
          refine v_aaldN hz (by omega) (by assumption) (by omega) (by decide) (hrb i (by omega)).1 dX0_walkSteps_110 ?_
          refine v_iload hz dX0_walkSteps_111 rfl ?_
          refine v_ialdN hz (by assumption) (by assumption) (by omega) (by decide) dX0_walkSteps_113 ?_
          refine v_top (y := nI (bcn 1000000 w S T i j)) (by rw [bb i (by omega)]; exact hbo i j (by omega) (by omega) trivial) ?_
          refine v_iload hz dX0_walkSteps_114 rfl ?_
          refine v_iload hz dX0_walkSteps_116 rfl ?_
          refine v_aload_n hz dX0_walkSteps_118 rfl ?_
          refine v_getR hz fX0_77 (by assumption) (by assumption) dX0_walkSteps_119 ?_
          refine v_iload hz dX0_walkSteps_122 rfl ?_
          refine v_aaldN hz (by omega) (by assumption) (by omega) (by decide) (srow i (by omega)).1 dX0_walkSteps_124 ?_
          have hsk := (srow i (by omega)).2.1
          refine v_callVi hz lX0_85 (cX6_isWord_ok _ _ _ _ _ _ A _ (srow i (by omega)).2 (S.2.1 i) (g1.2.2.2 i (by omega)).1 (g1.2.2.2 i (by omega)).2.1) (by assumption) rfl rfl (Nat.le_of_ble_eq_true rfl) (by decide) ⟨Nat.zero_le _, Nat.zero_le _⟩ dX0_walkSteps_125 (fun r I1 h125 => ?_)
          obtain ⟨rfl, rfl⟩ := h125
          refine v_join 136 (bz (S.2.1 i = 0)) (fun hj => ?_) ?_
          · first | with_reducible refine v_if_neB hz 135 dX0_walkSteps_128 (by decide) (fun c128 => ?_) (fun c128 => ?_) | with_reducible refine v_if_neN hz 135 (by omega) dX0_walkSteps_128 (by decide) (fun c128 => ?_) (fun c128 => ?_) | refine v_if_ne hz 135 dX0_walkSteps_128 (by decide) (fun c128 => ?_) (fun c128 => ?_)
            · refine v_ic (v := nI 0) hz dX0_walkSteps_135 (by decide) ?_
              exact v_top (by first | exact (bz_t (by omega)).symm | exact (bz_f (by omega)).symm) hj
            · refine v_ic (v := nI 1) hz dX0_walkSteps_131 (by decide) ?_
              refine v_goto hz 136 dX0_walkSteps_132 (by decide) ?_
              exact v_top (by first | exact (bz_t (by omega)).symm | exact (bz_f (by omega)).symm) hj
          refine v_callVv hz lX0_103 (cX1_addStep_ok _ _ _ _ _ _ A cb hc k (ttg w S T k) (bcn 1000000 w S T i j) _ _ _ (S.2.1 i = 0) (by omega) (by omega) h7 h8) (by assumption) rfl rfl (Nat.le_of_ble_eq_true rfl) (by decide) ⟨Nat.zero_le _, Nat.zero_le _⟩ dX0_walkSteps_136 (fun I1 h136 => ?_)
          obtain ⟨y7, y8, yO, yF, y1, y2, y3, y4⟩ := aS_all hc h8 h136
          first | refine v_iincN hz 1 dX0_walkSteps_139 (by decide) rfl (by decide) rfl ?_ | refine v_iinc hz dX0_walkSteps_139 rfl (by decide) rfl ?_
          first | refine v_iincN hz 1 dX0_walkSteps_142 (by decide) rfl (by decide) rfl ?_ | refine v_iinc hz dX0_walkSteps_142 rfl (by decide) rfl ?_
          refine v_goto hz 284 dX0_walkSteps_145 (by decide) ?_
          first | refine v_iincN hz 1 dX0_walkSteps_284 (by decide) rfl (by decide) rfl ?_ | refine v_iinc hz dX0_walkSteps_284 rfl (by decide) rfl ?_
          refine v_goto hz 14 dX0_walkSteps_287 (by decide) ?_
          first | exact v_sub (ih (k + 1) (i + 1) (j + 1) _ (by omega) (by omega) (by omega) (by omega) (sv0 hpos (kn0 (by omega) (by omega) (Classical.not_not.mp c98).symm)).2 (fun q hq => by rcases Nat.lt_succ_iff_lt_or_eq.mp hq with e | e; exact hns q e; rw [e, hpos]; intro e2; have := congrArg Prod.fst e2; have := congrArg Prod.snd e2; simp only at *; omega) y7 (by rw [y8]; exact congrArg nI (tt_s hpos (sc0 hpos (kn0 (by omega) (by omega) (Classical.not_not.mp c98).symm)) (by rw [(kn0 (by omega) (by omega) (Classical.not_not.mp c98).symm)]; simp))) (hA.put (sv0 hpos (kn0 (by omega) (by omega) (Classical.not_not.mp c98).symm)).1 y1 y2 y3 y4) (hF.tr yF) (fun f f1 f2 => (yO f f1 f2).trans (hO f f1 f2))) ⟨rfl, rfl, rfl, rfl, rfl, rfl, rfl, rfl, trivial⟩ | exact v_sub (ih (k + 1) (i + 1) j _ (by omega) (by omega) (by omega) (by omega) (sv1 hpos (kn1 (fun q => c98 q.2.2.symm) (by omega) (Classical.not_not.mp c187).symm)).2 (fun q hq => by rcases Nat.lt_succ_iff_lt_or_eq.mp hq with e | e; exact hns q e; rw [e, hpos]; intro e2; have := congrArg Prod.fst e2; have := congrArg Prod.snd e2; simp only at *; omega) y7 (by rw [y8]; exact congrArg nI (tt_s hpos (sc1 hpos (kn1 (fun q => c98 q.2.2.symm) (by omega) (Classical.not_not.mp c187).symm)) (by rw [(kn1 (fun q => c98 q.2.2.symm) (by omega) (Classical.not_not.mp c187).symm)]; simp))) (hA.put (sv1 hpos (kn1 (fun q => c98 q.2.2.symm) (by omega) (Classical.not_not.mp c187).symm)).1 y1 y2 y3 y4) (hF.tr yF) (fun f f1 f2 => (yO f f1 f2).trans (hO f f1 f2))) ⟨rfl, rfl, rfl, rfl, rfl, rfl, rfl, rfl, trivial⟩ | exact v_sub (ih (k + 1) (i + 1) j _ (by omega) (by omega) (by omega) (by omega) (sv1 hpos (kn1 (fun q => absurd q.2.1 (by omega)) (by omega) (Classical.not_not.mp c187).symm)).2 (fun q hq => by rcases Nat.lt_succ_iff_lt_or_eq.mp hq with e | e; exact hns q e; rw [e, hpos]; intro e2; have := congrArg Prod.fst e2; have := congrArg Prod.snd e2; simp only at *; omega) y7 (by rw [y8]; exact congrArg nI (tt_s hpos (sc1 hpos (kn1 (fun q => absurd q.2.1 (by omega)) (by omega) (Classical.not_not.mp c187).symm)) (by rw [(kn1 (fun q => absurd q.2.1 (by omega)) (by omega) (Classical.not_not.mp c187).symm)]; simp))) (hA.put (sv1 hpos (kn1 (fun q => absurd q.2.1 (by omega)) (by omega) (Classical.not_not.mp c187).symm)).1 y1 y2 y3 y4) (hF.tr yF) (fun f f1 f2 => (yO f f1 f2).trans (hO f f1 f2))) ⟨rfl, rfl, rfl, rfl, rfl, rfl, rfl, rfl, trivial⟩ | exact v_sub (ih (k + 1) i (j + 1) _ (by omega) (by omega) (by omega) (by omega) (sv2 hpos (kn2 (fun q => c98 q.2.2.symm) (fun q => c187 q.2.symm))).2 (fun q hq => by rcases Nat.lt_succ_iff_lt_or_eq.mp hq with e | e; exact hns q e; rw [e, hpos]; intro e2; have := congrArg Prod.fst e2; have := congrArg Prod.snd e2; simp only at *; omega) y7 (by rw [y8]; exact congrArg nI (tt_s hpos (sc2 hpos (kn2 (fun q => c98 q.2.2.symm) (fun q => c187 q.2.symm))) (by rw [(kn2 (fun q => c98 q.2.2.symm) (fun q => c187 q.2.symm))]; simp))) (hA.put (sv2 hpos (kn2 (fun q => c98 q.2.2.symm) (fun q => c187 q.2.symm))).1 y1 y2 y3 y4) (hF.tr yF) (fun f f1 f2 => (yO f f1 f2).trans (hO f f1 f2))) ⟨rfl, rfl, rfl, rfl, rfl, rfl, rfl, rfl, trivial⟩ | exact v_sub (ih (k + 1) i (j + 1) _ (by omega) (by omega) (by omega) (by omega) (sv2 hpos (kn2 (fun q => c98 q.2.2.symm) (fun q => absurd q.1 (by omega)))).2 (fun q hq => by rcases Nat.lt_succ_iff_lt_or_eq.mp hq with e | e; exact hns q e; rw [e, hpos]; intro e2; have := congrArg Prod.fst e2; have := congrArg Prod.snd e2; simp only at *; omega) y7 (by rw [y8]; exact congrArg nI (tt_s hpos (sc2 hpos (kn2 (fun q => c98 q.2.2.symm) (fun q => absurd q.1 (by omega)))) (by rw [(kn2 (fun q => c98 q.2.2.symm) (fun q => absurd q.1 (by omega)))]; simp))) (hA.put (sv2 hpos (kn2 (fun q => c98 q.2.2.symm) (fun q => absurd q.1 (by omega)))).1 y1 y2 y3 y4) (hF.tr yF) (fun f f1 f2 => (yO f f1 f2).trans (hO f f1 f2))) ⟨rfl, rfl, rfl, rfl, rfl, rfl, rfl, rfl, trivial⟩ | exact v_sub (ih (k + 1) i (j + 1) _ (by omega) (by omega) (by omega) (by omega) (sv2 hpos (kn2 (fun q => absurd q.2.1 (by omega)) (fun q => c187 q.2.symm))).2 (fun q hq => by rcases Nat.lt_succ_iff_lt_or_eq.mp hq with e | e; exact hns q e; rw [e, hpos]; intro e2; have := congrArg Prod.fst e2; have := congrArg Prod.snd e2; simp only at *; omega) y7 (by rw [y8]; exact congrArg nI (tt_s hpos (sc2 hpos (kn2 (fun q => absurd q.2.1 (by omega)) (fun q => c187 q.2.symm))) (by rw [(kn2 (fun q => absurd q.2.1 (by omega)) (fun q => c187 q.2.symm))]; simp))) (hA.put (sv2 hpos (kn2 (fun q => absurd q.2.1 (by omega)) (fun q => c187 q.2.symm))).1 y1 y2 y3 y4) (hF.tr yF) (fun f f1 f2 => (yO f f1 f2).trans (hO f f1 f2))) ⟨rfl, rfl, rfl, rfl, rfl, rfl, rfl, rfl, trivial⟩ | exact v_sub (ih (k + 1) i (j + 1) _ (by omega) (by omega) (by omega) (by omega) (sv2 hpos (kn2 (fun q => absurd q.2.1 (by omega)) (fun q => absurd q.1 (by omega)))).2 (fun q hq => by rcases Nat.lt_succ_iff_lt_or_eq.mp hq with e | e; exact hns q e; rw [e, hpos]; intro e2; have := congrArg Prod.fst e2; have := congrArg Prod.snd e2; simp only at *; omega) y7 (by rw [y8]; exact congrArg nI (tt_s hpos (sc2 hpos (kn2 (fun q => absurd q.2.1 (by omega)) (fun q => absurd q.1 (by omega)))) (by rw [(kn2 (fun q => absurd q.2.1 (by omega)) (fun q => absurd q.1 (by omega)))]; simp))) (hA.put (sv2 hpos (kn2 (fun q => absurd q.2.1 (by omega)) (fun q => absurd q.1 (by omega)))).1 y1 y2 y3 y4) (hF.tr yF) (fun f f1 f2 => (yO f f1 f2).trans (hO f f1 f2))) ⟨rfl, rfl, rfl, rfl, rfl, rfl, rfl, rfl, trivial⟩ | exact v_sub (ih (k + 1) i (j + 1) _ (by omega) (by omega) (by omega) (by omega) (sv2 hpos (kn2 (fun q => absurd q.1 (by omega)) (fun q => c187 q.2.symm))).2 (fun q hq => by rcases Nat.lt_succ_iff_lt_or_eq.mp hq with e | e; exact hns q e; rw [e, hpos]; intro e2; have := congrArg Prod.fst e2; have := congrArg Prod.snd e2; simp only at *; omega) y7 (by rw [y8]; exact congrArg nI (tt_s hpos (sc2 hpos (kn2 (fun q => absurd q.1 (by omega)) (fun q => c187 q.2.symm))) (by rw [(kn2 (fun q => absurd q.1 (by omega)) (fun q => c187 q.2.symm))]; simp))) (hA.put (sv2 hpos (kn2 (fun q => absurd q.1 (by omega)) (fun q => c187 q.2.symm))).1 y1 y2 y3 y4) (hF.tr yF) (fun f f1 f2 => (yO f f1 f2).trans (hO f f1 f2))) ⟨rfl, rfl, rfl, rfl, rfl, rfl, rfl, rfl, trivial⟩ | exact v_sub (ih (k + 1) i (j + 1) _ (by omega) (by omega) (by omega) (by omega) (sv2 hpos (kn2 (fun q => absurd q.1 (by omega)) (fun q => absurd q.1 (by omega)))).2 (fun q hq => by rcases Nat.lt_succ_iff_lt_or_eq.mp hq with e | e; exact hns q e; rw [e, hpos]; intro e2; have := congrArg Prod.fst e2; have := congrArg Prod.snd e2; simp only at *; omega) y7 (by rw [y8]; exact congrArg nI (tt_s hpos (sc2 hpos (kn2 (fun q => absurd q.1 (by omega)) (fun q => absurd q.1 (by omega)))) (by rw [(kn2 (fun q => absurd q.1 (by omega)) (fun q => absurd q.1 (by omega)))]; simp))) (hA.put (sv2 hpos (kn2 (fun q => absurd q.1 (by omega)) (fun q => absurd q.1 (by omega)))).1 y1 y2 y3 y4) (hF.tr yF) (fun f f1 f2 => (yO f f1 f2).trans (hO f f1 f2))) ⟨rfl, rfl, rfl, rfl, rfl, rfl, rfl, rfl, trivial⟩
set_option maxHeartbeats 4000000 in
set_option maxRecDepth 100000 in
theorem cX0_walkSteps_ok (l : Launch) (g : Gz) (κ : Kz) (I : Iz) (R : Rz) (J : Jz) (A : Nat → Nat) (ha : LAg κ R A) (w b1 b2 cb : Nat) (S T : Sg) (hg1 : LGg κ R A b1) (hg2 : LGg κ R A b2) (hc : LCg κ R A cb) (hb1 : 200 ≤ b1) (hb2 : 200 ≤ b2) (hcb : 60 ≤ cb ∧ cb + 5 ≤ 200) (h1 : csg I A b1 S) (h2 : csg I A b2 T) (hw : w ≤ 20) (hbo : boF I A w S T (fun _ _ => True)) (hre : reF I A w S T (fun _ _ => True)) : Ct l mX0_walkSteps 0 0 g [.ref (A 5), .ref (A b1), .ref (A b2), .int (nI w), .ref (A cb)] κ I R J (Sv κ R J (fun I1 => Fcb A cb I I1 ∧ (∀ f, f ≠ 7 → f ≠ 8 → I1 (A cb) f = I (A cb) f) ∧ ∃ k, stpC I1 A cb w S T k)) := by
  refine ct_of (by decide) (Nat.le_of_ble_eq_true rfl) ?_
  intro z hz hr hrc hrs
  have hz : Am z cX0_walkSteps RX0 10 2 := hz
  have hr : Rt z yX0_walkSteps none 0 0 _ := hr
  show V z 10 0 0 0 [(0, .ref (A 5)), (1, .ref (A b1)), (2, .ref (A b2)), (3, .int (nI w)), (4, .ref (A cb))] [] κ I R J
  obtain ⟨hk, ⟨hR0, hK6, hN6, hrb⟩, ⟨hR1, hK7, hN7, hrr⟩, ⟨hR2, hK8, hN8, ho8⟩⟩ := id ha
  have hck := hc.1
  refine v_aload hz dX0_walkSteps_0 rfl ?_
  refine v_callVv hz lX0_100 (cX1_clearSteps_ok _ _ _ _ _ _ A cb hc) (by assumption) rfl rfl (Nat.le_of_ble_eq_true rfl) (by decide) ⟨Nat.zero_le _, Nat.zero_le _⟩ dX0_walkSteps_2 (fun I1 hcs => ?_)
  subst hcs
  refine v_ic (v := nI 0) hz dX0_walkSteps_5 (by decide) ?_
  refine v_istore hz dX0_walkSteps_6 (by decide) rfl ?_
  refine v_ic (v := nI 0) hz dX0_walkSteps_8 (by decide) ?_
  refine v_istore hz dX0_walkSteps_9 (by decide) rfl ?_
  refine v_ic (v := nI 0) hz dX0_walkSteps_11 (by decide) ?_
  refine v_istore hz dX0_walkSteps_12 (by decide) rfl ?_
  exact v_sub (lp_X0_walk ha hz hg1 hg2 hc hb1 hb2 hcb h1 h2 hw hbo hre hr (S.1 + T.1 + 1) 0 0 0 _ (by omega) (by omega) (by omega) (by omega) rfl (fun q hq => absurd hq (by omega)) (by rw [u2_at (by decide), u2_eq]) (by rw [u2_eq]; rfl) (fun q hq => absurd hq (by omega)) ((Fcb.rf.put (Nat.le_refl _) (by omega)).put (Nat.le_refl _) (by omega)) (fun f f1 f2 => by rw [u2_at f2, u2_at f1])) ⟨rfl, rfl, rfl, rfl, rfl, rfl, rfl, rfl, trivial⟩
/-- what a comparison of two segments holds -/
def cmpC (I : Iz) (A : Nat → Nat) (b : Nat) (w : Nat) (S T : Sg) : Prop := I (A b) 4 = nI (pay w S T 0 0) ∧ I (A b) 5 = nI (cal w S + cal w T) ∧ I (A b) 6 = nI (shC (gct ccode S) (gct ccode T)) ∧ I (A b) 9 = nI (sco w S T) ∧ ∃ k, stpC I A b w S T k
/-- what a comparison alters: the aligner's rows and the comparison's cells -/
def Fac (A : Nat → Nat) (b : Nat) (I I1 : Iz) : Prop := ∀ a, (∀ t, aT t ∨ (b ≤ t ∧ t < b + 5) → a ≠ A t) → I1 a = I a
set_option maxHeartbeats 4000000 in
set_option maxRecDepth 100000 in
theorem cX0_compare_ok (l : Launch) (g : Gz) (κ : Kz) (I : Iz) (R : Rz) (J : Jz) (A : Nat → Nat) (ha : LAg κ R A) (w b1 b2 cb : Nat) (S T : Sg) (hg1 : LGg κ R A b1) (hg2 : LGg κ R A b2) (hc : LCg κ R A cb) (hb1 : 200 ≤ b1) (hb2 : 200 ≤ b2) (hcb : 60 ≤ cb ∧ cb + 5 ≤ 200) (h1 : cseg I A b1 S) (h2 : cseg I A b2 T) (hS1 : 1 ≤ S.1) (hw : 1 ≤ w ∧ w ≤ 20) : Ct l mX0_compare 0 0 g [.ref (A 5), .ref (A b1), .ref (A b2), .int (nI w), .ref (A cb)] κ I R J (Sv κ R J (fun I1 => Fac A cb I I1 ∧ cmpC I1 A cb w S T ∧ ∀ f, 10 ≤ f → I1 (A cb) f = I (A cb) f)) := by
  refine ct_of (by decide) (Nat.le_of_ble_eq_true rfl) ?_
  intro z hz hr hrc hrs
  have hz : Am z cX0_compare RX0 5 4 := hz
  have hr : Rt z yX0_compare none 0 0 _ := hr
  show V z 5 0 0 0 [(0, .ref (A 5)), (1, .ref (A b1)), (2, .ref (A b2)), (3, .int (nI w)), (4, .ref (A cb))] [] κ I R J
  obtain ⟨hk, ⟨hR0, hK6, hN6, hrb⟩, ⟨hR1, hK7, hN7, hrr⟩, ⟨hR2, hK8, hN8, ho8⟩⟩ := id ha
  have hck := hc.1
  have sk := hg1.1
  have tk := hg2.1
  obtain ⟨s1, G1, r1, n1⟩ := h1
  obtain ⟨t1, G2, r2, n2⟩ := h2
  have q1 := pay_all w S T
  have q2 := cal_le (S := S) hw.2 s1.1
  have q3 := cal_le (S := T) hw.2 t1.1
  have q4 := cal_pos (S := S) hw.1 hS1
  refine v_aload_n hz dX0_compare_0 rfl ?_
  refine v_aload_n hz dX0_compare_1 rfl ?_
  refine v_aload_n hz dX0_compare_2 rfl ?_
  refine v_iload_n hz dX0_compare_3 rfl ?_
  refine v_callVv hz lX0_23 (cX0_fillBoth_ok _ _ _ _ _ _ A ha w b1 b2 S T hg1 hg2 hb1 hb2 s1 t1) (by assumption) rfl rfl (Nat.le_of_ble_eq_true rfl) (by decide) ⟨Nat.zero_le _, Nat.zero_le _⟩ dX0_compare_4 (fun I1 h4 => ?_)
  obtain ⟨hF1, hbo⟩ := h4
  have sa := s1.fa ha hF1 hg1 hb1
  have ta := t1.fa ha hF1 hg2 hb2
  refine v_aload_n hz dX0_compare_7 rfl ?_
  refine v_aload_n hz dX0_compare_8 rfl ?_
  refine v_aload_n hz dX0_compare_9 rfl ?_
  refine v_iload_n hz dX0_compare_10 rfl ?_
  refine v_callVv hz lX0_27 (cX0_fillRest_ok _ _ _ _ _ _ A ha w b1 b2 S T hg1 hg2 hb1 hb2 sa ta hw.2 hbo) (by assumption) rfl rfl (Nat.le_of_ble_eq_true rfl) (by decide) ⟨Nat.zero_le _, Nat.zero_le _⟩ dX0_compare_11 (fun I2 h11 => ?_)
  obtain ⟨hF2, hbo2, hre2⟩ := h11
  have hF := hF1.tr hF2
  have s2 := s1.fa ha hF hg1 hb1
  have t2 := t1.fa ha hF hg2 hb2
  have u2a := r1.fa ha hF hg1 hb1
  have u2b := r2.fa ha hF hg2 hb2
  have F0c : Fcb A cb I2 I2 := Fcb.rf
  obtain ⟨-, raK, raN, raO⟩ := hrr 0 (by omega)
  refine v_aload hz dX0_compare_14 rfl ?_
  refine v_aload_n hz dX0_compare_16 rfl ?_
  refine v_getR hz fX0_16 (by assumption) (by assumption) dX0_compare_17 ?_
  refine v_ic (v := nI 0) hz dX0_compare_20 (by decide) ?_
  refine v_aaldN hz (by omega) (by assumption) (by omega) (by decide) (hrr 0 (by omega)).1 dX0_compare_21 ?_
  refine v_ic (v := nI 0) hz dX0_compare_22 (by decide) ?_
  refine v_ialdN hz (by assumption) (by assumption) (by omega) (by decide) dX0_compare_23 ?_
  refine v_top (y := nI (pay w S T 0 0)) (hre2 0 0 (by omega) (by omega) trivial) ?_
  refine v_putI hz fX0_30 (by assumption) dX0_compare_24 ?_
  refine v_gen (fun M3 hM3 => ?_)
  have FM3 : Fcb A cb I2 M3 := by rw [hM3]; exact F0c.put (Nat.le_refl _) (by omega)
  have sM3 := s2.fc hc hcb.2 FM3 hg1 hb1
  have tM3 := t2.fc hc hcb.2 FM3 hg2 hb2
  refine v_aload hz dX0_compare_27 rfl ?_
  refine v_aload_n hz dX0_compare_29 rfl ?_
  refine v_iload_n hz dX0_compare_30 rfl ?_
  refine v_callVi hz lX0_36 (cX5_cost_ok _ _ _ _ _ _ A b1 hg1 w S sM3.2.1 sM3.2.2.1) (by assumption) rfl rfl (Nat.le_of_ble_eq_true rfl) (by decide) ⟨Nat.zero_le _, Nat.zero_le _⟩ dX0_compare_31 (fun r J1 h31 => ?_)
  obtain ⟨rfl, rfl⟩ := h31
  refine v_aload_n hz dX0_compare_34 rfl ?_
  refine v_iload_n hz dX0_compare_35 rfl ?_
  refine v_callVi hz lX0_36 (cX5_cost_ok _ _ _ _ _ _ A b2 hg2 w T tM3.2.1 tM3.2.2.1) (by assumption) rfl rfl (Nat.le_of_ble_eq_true rfl) (by decide) ⟨Nat.zero_le _, Nat.zero_le _⟩ dX0_compare_36 (fun r J1 h36 => ?_)
  obtain ⟨rfl, rfl⟩ := h36
  first | with_reducible refine v_iaddN hz dX0_compare_39 ?_ | refine v_iadd hz dX0_compare_39 ?_
  refine v_putI hz fX0_42 (by assumption) dX0_compare_40 ?_
  refine v_gen (fun M4 hM4 => ?_)
  have FM4 : Fcb A cb I2 M4 := by rw [hM4]; exact FM3.put (Nat.le_refl _) (by omega)
  have sM4 := s2.fc hc hcb.2 FM4 hg1 hb1
  have tM4 := t2.fc hc hcb.2 FM4 hg2 hb2
  have ra := u2a.fc hc hcb.2 FM4 hg1 hb1
  have rb := u2b.fc hc hcb.2 FM4 hg2 hb2
  refine v_aload hz dX0_compare_43 rfl ?_
  refine v_aload_n hz dX0_compare_45 rfl ?_
  refine v_aload_n hz dX0_compare_46 rfl ?_
  refine v_callVi hz lX0_45 (cX5_sharedWith_ok _ _ _ _ _ _ A b1 b2 hg1 hg2 _ _ G1 G2 ra rb) (by assumption) rfl rfl (Nat.le_of_ble_eq_true rfl) (by decide) ⟨Nat.zero_le _, Nat.zero_le _⟩ dX0_compare_47 (fun r J1 h47 => ?_)
  obtain ⟨rfl, rfl⟩ := h47
  refine v_putI hz fX0_49 (by assumption) dX0_compare_50 ?_
  refine v_gen (fun M5 hM5 => ?_)
  have FM5 : Fcb A cb I2 M5 := by rw [hM5]; exact FM4.put (Nat.le_refl _) (by omega)
  have sM5 := s2.fc hc hcb.2 FM5 hg1 hb1
  have tM5 := t2.fc hc hcb.2 FM5 hg2 hb2
  have v4 : M5 (A cb) 4 = nI (pay w S T 0 0) := by rw [hM5, u2_at (by decide), hM4, u2_at (by decide), hM3, u2_eq]
  have v5 : M5 (A cb) 5 = nI (cal w S + cal w T) := by rw [hM5, u2_at (by decide), hM4, u2_eq]
  have v6 : M5 (A cb) 6 = nI (shC (gct ccode S) (gct ccode T)) := by rw [hM5, u2_eq, show gct ccode S = cnt G1 (grn S) from funext (fun c => (n1 c).symm), show gct ccode T = cnt G2 (grn T) from funext (fun c => (n2 c).symm)]
  have v10 : ∀ f, 10 ≤ f → M5 (A cb) f = I2 (A cb) f := fun f hf => by rw [hM5, u2_at (by omega), hM4, u2_at (by omega), hM3, u2_at (by omega)]
  refine v_aload hz dX0_compare_53 rfl ?_
  refine v_callVv hz lX0_52 (cX1_setScore_ok _ _ _ _ _ _ A cb hc _ _ (by omega) (by omega) q1 v4 v5) (by assumption) rfl rfl (Nat.le_of_ble_eq_true rfl) (by decide) ⟨Nat.zero_le _, Nat.zero_le _⟩ dX0_compare_55 (fun M6 h55 => ?_)
  have F6 : Fcb A cb I2 M6 := by rw [h55]; exact FM5.put (Nat.le_refl _) (by omega)
  have w1 : boF M6 A w S T (fun _ _ => True) := fun i j a1 a2 a3 => by rw [F6.at hc (ha.tag (aT20 (by have := s1.1; omega))) (by have := s1.1; omega)]; exact hbo2 i j a1 a2 a3
  have w2 : reF M6 A w S T (fun _ _ => True) := fun i j a1 a2 a3 => by rw [F6.at hc (ha.tag (aT40 (by have := s1.1; omega))) (by have := s1.1; omega)]; exact hre2 i j a1 a2 a3
  refine v_aload_n hz dX0_compare_58 rfl ?_
  refine v_aload_n hz dX0_compare_59 rfl ?_
  refine v_aload_n hz dX0_compare_60 rfl ?_
  refine v_iload_n hz dX0_compare_61 rfl ?_
  refine v_aload hz dX0_compare_62 rfl ?_
  refine v_callVv hz lX0_55 (cX0_walkSteps_ok _ _ _ _ _ _ A ha w b1 b2 cb S T hg1 hg2 hc hb1 hb2 hcb (s2.fc hc hcb.2 F6 hg1 hb1) (t2.fc hc hcb.2 F6 hg2 hb2) hw.2 w1 w2) (by assumption) rfl rfl (Nat.le_of_ble_eq_true rfl) (by decide) ⟨Nat.zero_le _, Nat.zero_le _⟩ dX0_compare_64 (fun M7 h64 => ?_)
  obtain ⟨F7, O7, k, hst⟩ := h64
  exact v_vret hz hr dX0_compare_67 ⟨fun a h => by rw [F7 a (fun t x1 x2 => h t (Or.inr ⟨x1, x2⟩)), F6 a (fun t x1 x2 => h t (Or.inr ⟨x1, x2⟩))]; exact hF a (fun t x => h t (Or.inl x)), ⟨by rw [O7 4 (by decide) (by decide), h55, u2_at (by decide)]; exact v4, by rw [O7 5 (by decide) (by decide), h55, u2_at (by decide)]; exact v5, by rw [O7 6 (by decide) (by decide), h55, u2_at (by decide)]; exact v6, by rw [O7 9 (by decide) (by decide), h55, u2_eq]; rfl, k, hst⟩, fun f hf => by rw [O7 f (by omega) (by omega), h55, u2_at (by omega), v10 f hf]; exact congrFun (hF.at ha hc.2.1 (naT (by omega))) f⟩
