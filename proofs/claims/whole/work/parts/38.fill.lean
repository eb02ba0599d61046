/-! ===== the class: the aligner's two tables ===== -/
def boF (I : Iz) (A : Nat → Nat) (w : Nat) (S T : Sg) (P : Nat → Nat → Prop) : Prop := ∀ i j, i < S.1 → j < T.1 → P i j → I (A (20 + i)) j = nI (bcn 1000000 w S T i j)
def reF (I : Iz) (A : Nat → Nat) (w : Nat) (S T : Sg) (P : Nat → Nat → Prop) : Prop := ∀ i j, i ≤ S.1 → j ≤ T.1 → P i j → I (A (40 + i)) j = nI (pay w S T i j)
theorem boF.put {κ : Kz} {R : Rz} {A : Nat → Nat} (ha : LAg κ R A) {I : Iz} {w : Nat} {S T : Sg} {P P' : Nat → Nat → Prop} {i j : Nat} {x : Int32} (h : boF I A w S T P) (hS : S.1 ≤ 8) (hi : i < S.1) (hx : x = nI (bcn 1000000 w S T i j)) (hP : ∀ i' j', P' i' j' → P i' j' ∨ (i' = i ∧ j' = j)) : boF (u2 I (A (20 + i)) j x) A w S T P' := by
  intro i' j' h1 h2 h3
  by_cases e : i' = i
  · subst e
    by_cases e2 : j' = j
    · subst e2
      rw [u2_eq, hx]
    · rw [u2_at e2]
      exact h i' j' h1 h2 ((hP i' j' h3).resolve_right (fun q => e2 q.2))
  · rw [u2_ne (tag_ne (ha.tag (Or.inr (Or.inl ⟨by omega, by omega⟩))) (ha.tag (Or.inr (Or.inl ⟨by omega, by omega⟩))) (by omega))]
    exact h i' j' h1 h2 ((hP i' j' h3).resolve_right (fun q => e q.1))
theorem reF.put {κ : Kz} {R : Rz} {A : Nat → Nat} (ha : LAg κ R A) {I : Iz} {w : Nat} {S T : Sg} {P P' : Nat → Nat → Prop} {i j x : Nat} (h : reF I A w S T P) (hS : S.1 ≤ 8) (hi : i ≤ S.1) (hx : x = pay w S T i j) (hP : ∀ i' j', i' ≤ S.1 → j' ≤ T.1 → P' i' j' → P i' j' ∨ (i' = i ∧ j' = j)) : reF (u2 I (A (40 + i)) j (nI x)) A w S T P' := by
  intro i' j' h1 h2 h3
  by_cases e : i' = i
  · subst e
    by_cases e2 : j' = j
    · subst e2
      rw [u2_eq, hx]
    · rw [u2_at e2]
      exact h i' j' h1 h2 ((hP i' j' h1 h2 h3).resolve_right (fun q => e2 q.2))
  · rw [u2_ne (tag_ne (ha.tag (Or.inr (Or.inr ⟨by omega, by omega⟩))) (ha.tag (Or.inr (Or.inr ⟨by omega, by omega⟩))) (by omega))]
    exact h i' j' h1 h2 ((hP i' j' h1 h2 h3).resolve_right (fun q => e q.1))
theorem boF.keepR {κ : Kz} {R : Rz} {A : Nat → Nat} (ha : LAg κ R A) {I : Iz} {w : Nat} {S T : Sg} {P : Nat → Nat → Prop} {t k : Nat} {x : Int32} (h : boF I A w S T P) (hS : S.1 ≤ 8) (ht : t = 8 ∨ (40 ≤ t ∧ t < 49)) : boF (u2 I (A t) k x) A w S T P := by
  intro i' j' h1 h2 h3
  rw [u2_ne (tag_ne (ha.tag (Or.inr (Or.inl ⟨by omega, by omega⟩))) (ha.tag (by rcases ht with e | e; exact Or.inl e; exact Or.inr (Or.inr e))) (by omega))]
  exact h i' j' h1 h2 h3
theorem reF.to {I : Iz} {A : Nat → Nat} {w : Nat} {S T : Sg} {P P' : Nat → Nat → Prop} (h : reF I A w S T P) (hP : ∀ i' j', i' ≤ S.1 → j' ≤ T.1 → P' i' j' → P i' j') : reF I A w S T P' := fun i j h1 h2 h3 => h i j h1 h2 (hP i j h1 h2 h3)
theorem mmin_N {a b : Nat} (ha : a < 2147483648) (hb : b < 2147483648) : (if nI b < nI a then nI b else nI a) = nI (min a b) := by
  rw [Nat.min_comm]
  exact nI_min hb ha
theorem aT20 {i : Nat} (h : i < 8) : aT (20 + i) := Or.inr (Or.inl ⟨by omega, by omega⟩)
theorem aT40 {i : Nat} (h : i < 9) : aT (40 + i) := Or.inr (Or.inr ⟨by omega, by omega⟩)
set_option maxHeartbeats 4000000 in
set_option maxRecDepth 100000 in
theorem lp_X0_fb2 {z : Zz} {κ : Kz} {I0 : Iz} {R : Rz} {J : Jz} {A : Nat → Nat} (ha : LAg κ R A) (hz : Am z cX0_fillBoth RX0 6 3) {w b1 b2 : Nat} {S T : Sg} (hg1 : LGg κ R A b1) (hg2 : LGg κ R A b2) (hb1 : 200 ≤ b1) (hb2 : 200 ≤ b2) (h1 : csg I0 A b1 S) (h2 : csg I0 A b2 T) (i : Nat) (hi : i < S.1) (K : ∀ I1, Fa A I0 I1 → boF I1 A w S T (fun i' _ => i' < i + 1) → V z 6 0 0 59 [(0, .ref (A 5)), (1, .ref (A b1)), (2, .ref (A b2)), (3, .int (nI w)), (4, .int (nI i))] [] κ I1 R J) :
    ∀ (n j : Nat) (I : Iz), j ≤ T.1 → T.1 + 1 ≤ j + n → Fa A I0 I → boF I A w S T (fun i' j' => i' < i ∨ (i' = i ∧ j' < j)) → V z 6 0 0 15 [(0, .ref (A 5)), (1, .ref (A b1)), (2, .ref (A b2)), (3, .int (nI w)), (4, .int (nI i)), (5, .int (nI j))] [] κ I R J := by
  obtain ⟨hk, ⟨hR0, hK6, hN6, hrb⟩, ⟨hR1, hK7, hN7, hrr⟩, ⟨hR2, hK8, hN8, ho8⟩⟩ := id ha
  obtain ⟨sk, so, ⟨sR0, sK1, sN1, so1⟩, -, srow⟩ := id hg1
  obtain ⟨tk, to, ⟨tR0, tK1, tN1, to1⟩, -, trow⟩ := id hg2
  intro n
  induction n with
  | zero => intro j I hj hn; exact absurd hn (by omega)
  | succ n ih =>
  intro j I hj hn hF hbo
  have g1 : csg I A b1 S := h1.fa ha hF hg1 hb1
  have g2 : csg I A b2 T := h2.fa ha hF hg2 hb2
  have hS := h1.1
  have hT := h2.1
  obtain ⟨rbR, rbK, rbN, rbO⟩ := hrb i (by omega)
  refine v_iload hz dX0_fillBoth_15 rfl ?_
  refine v_aload_n hz dX0_fillBoth_17 rfl ?_
  refine v_getI hz fX0_74 (by assumption) dX0_fillBoth_18 ?_
  refine v_top g2.2.1 ?_
  first | with_reducible refine v_icmp_geN hz 59 (by omega) (by omega) dX0_fillBoth_21 (by decide) (fun c21 => ?_) (fun c21 => ?_) | refine v_icmp_ge hz 59 dX0_fillBoth_21 (by decide) (fun c21 => ?_) (fun c21 => ?_)
  · exact v_sub (K _ hF (fun i' j' a1 a2 a3 => hbo i' j' a1 a2 (by omega))) ⟨rfl, rfl, rfl, rfl, rfl, trivial⟩
  · refine v_aload_n hz dX0_fillBoth_24 rfl ?_
    refine v_getR hz fX0_11 (by assumption) (by assumption) dX0_fillBoth_25 ?_
    refine v_iload hz dX0_fillBoth_28 rfl ?_
    refine v_aaldN hz (by omega) (by assumption) (by omega) (by decide) rbR dX0_fillBoth_30 ?_
    refine v_iload hz dX0_fillBoth_31 rfl ?_
    refine v_aload_n hz dX0_fillBoth_33 rfl ?_
    refine v_aload_n hz dX0_fillBoth_34 rfl ?_
    refine v_getR hz fX0_77 (by assumption) (by assumption) dX0_fillBoth_35 ?_
    refine v_iload hz dX0_fillBoth_38 rfl ?_
    refine v_aaldN hz (by omega) (by assumption) (by omega) (by decide) (srow i (by omega)).1 dX0_fillBoth_40 ?_
    refine v_aload_n hz dX0_fillBoth_41 rfl ?_
    refine v_getR hz fX0_77 (by assumption) (by assumption) dX0_fillBoth_42 ?_
    refine v_iload hz dX0_fillBoth_45 rfl ?_
    refine v_aaldN hz (by omega) (by assumption) (by omega) (by decide) (trow j (by omega)).1 dX0_fillBoth_47 ?_
    refine v_iload_n hz dX0_fillBoth_48 rfl ?_
    refine v_callVi hz lX0_81 (cX0_costOfBoth_ok _ _ _ _ _ _ A ha w _ _ _ _ _ _ _ _ (srow i (by omega)).2 (trow j (by omega)).2 (by omega) (by omega) (g1.2.2.2 i (by omega)) (g2.2.2.2 j (by omega))) (by assumption) rfl rfl (Nat.le_of_ble_eq_true rfl) (by decide) ⟨Nat.zero_le _, Nat.zero_le _⟩ dX0_fillBoth_49 (fun r I1 h49 => ?_)
    obtain ⟨rfl, hE⟩ := h49
    refine v_iastN hz (by assumption) (by assumption) (by omega) (by decide) dX0_fillBoth_52 ?_
    first | refine v_iincN hz 1 dX0_fillBoth_53 (by decide) rfl (by decide) rfl ?_ | refine v_iinc hz dX0_fillBoth_53 rfl (by decide) rfl ?_
    refine v_goto hz 15 dX0_fillBoth_56 (by decide) ?_
    exact v_sub (ih (j + 1) _ (by omega) (by omega) ((hF.tr (fun a ha9 => hE a (ha9 8 (Or.inl rfl)))).put (aT20 (by omega))) (boF.put ha (P := fun i' j' => i' < i ∨ (i' = i ∧ j' < j)) (fun i' j' a1 a2 a3 => by rw [hE _ (tag_ne (ha.tag (aT20 (by omega))) ho8 (by omega))]; exact hbo i' j' a1 a2 a3) hS hi rfl (fun i' j' q => by omega))) ⟨rfl, rfl, rfl, rfl, rfl, rfl, trivial⟩
set_option maxHeartbeats 4000000 in
set_option maxRecDepth 100000 in
theorem lp_X0_fb1 {z : Zz} {κ : Kz} {I0 : Iz} {R : Rz} {J : Jz} {A : Nat → Nat} (ha : LAg κ R A) (hz : Am z cX0_fillBoth RX0 6 3) {w b1 b2 : Nat} {S T : Sg} (hg1 : LGg κ R A b1) (hg2 : LGg κ R A b2) (hb1 : 200 ≤ b1) (hb2 : 200 ≤ b2) (h1 : csg I0 A b1 S) (h2 : csg I0 A b2 T) (hr : Rt z yX0_fillBoth none 0 0 (Sv κ R J (fun I1 => Fa A I0 I1 ∧ boF I1 A w S T (fun _ _ => True)))) :
    ∀ (n i : Nat) (I : Iz), i ≤ S.1 → S.1 + 1 ≤ i + n → Fa A I0 I → boF I A w S T (fun i' _ => i' < i) → V z 6 0 0 3 [(0, .ref (A 5)), (1, .ref (A b1)), (2, .ref (A b2)), (3, .int (nI w)), (4, .int (nI i))] [] κ I R J := by
  obtain ⟨hk, ⟨hR0, hK6, hN6, hrb⟩, ⟨hR1, hK7, hN7, hrr⟩, ⟨hR2, hK8, hN8, ho8⟩⟩ := id ha
  obtain ⟨sk, so, ⟨sR0, sK1, sN1, so1⟩, -, srow⟩ := id hg1
  obtain ⟨tk, to, ⟨tR0, tK1, tN1, to1⟩, -, trow⟩ := id hg2
  intro n
  induction n with
  | zero => intro i I hi hn; exact absurd hn (by omega)
  | succ n ih =>
  intro i I hi hn hF hbo
  have g1 : csg I A b1 S := h1.fa ha hF hg1 hb1
  have g2 : csg I A b2 T := h2.fa ha hF hg2 hb2
  have hS := h1.1
  have hT := h2.1
  refine v_iload hz dX0_fillBoth_3 rfl ?_
  refine v_aload_n hz dX0_fillBoth_5 rfl ?_
  refine v_getI hz fX0_74 (by assumption) dX0_fillBoth_6 ?_
  refine v_top g1.2.1 ?_
  first | with_reducible refine v_icmp_geN hz 65 (by omega) (by omega) dX0_fillBoth_9 (by decide) (fun c9 => ?_) (fun c9 => ?_) | refine v_icmp_ge hz 65 dX0_fillBoth_9 (by decide) (fun c9 => ?_) (fun c9 => ?_)
  · exact v_vret hz hr dX0_fillBoth_65 ⟨hF, fun i' j' a1 a2 _ => hbo i' j' a1 a2 (by omega)⟩
  · refine v_ic (v := nI 0) hz dX0_fillBoth_12 (by decide) ?_
    refine v_istore hz dX0_fillBoth_13 (by decide) rfl ?_
    refine v_sub (lp_X0_fb2 ha hz hg1 hg2 hb1 hb2 h1 h2 i (by omega) (fun I1 hF1 hbo1 => ?_) (T.1 + 1) 0 I (by omega) (by omega) hF (fun i' j' a1 a2 a3 => hbo i' j' a1 a2 (by omega))) ⟨rfl, rfl, rfl, rfl, rfl, rfl, trivial⟩
    refine v_iincN hz 1 dX0_fillBoth_59 (by decide) rfl (by decide) rfl ?_
    refine v_goto hz 3 dX0_fillBoth_62 (by decide) ?_
    exact v_sub (ih (i + 1) I1 (by omega) (by omega) hF1 hbo1) ⟨rfl, rfl, rfl, rfl, rfl, trivial⟩
set_option maxHeartbeats 4000000 in
set_option maxRecDepth 100000 in
theorem cX0_fillBoth_ok (l : Launch) (g : Gz) (κ : Kz) (I : Iz) (R : Rz) (J : Jz) (A : Nat → Nat) (ha : LAg κ R A) (w b1 b2 : Nat) (S T : Sg) (hg1 : LGg κ R A b1) (hg2 : LGg κ R A b2) (hb1 : 200 ≤ b1) (hb2 : 200 ≤ b2) (h1 : csg I A b1 S) (h2 : csg I A b2 T) : Ct l mX0_fillBoth 0 0 g [.ref (A 5), .ref (A b1), .ref (A b2), .int (nI w)] κ I R J (Sv κ R J (fun I1 => Fa A I I1 ∧ boF I1 A w S T (fun _ _ => True))) := by
  refine ct_of (by decide) (Nat.le_of_ble_eq_true rfl) ?_
  intro z hz hr hrc hrs
  have hz : Am z cX0_fillBoth RX0 6 3 := hz
  have hr : Rt z yX0_fillBoth none 0 0 _ := hr
  show V z 6 0 0 0 [(0, .ref (A 5)), (1, .ref (A b1)), (2, .ref (A b2)), (3, .int (nI w))] [] κ I R J
  obtain ⟨hk, ⟨hR0, hK6, hN6, hrb⟩, ⟨hR1, hK7, hN7, hrr⟩, ⟨hR2, hK8, hN8, ho8⟩⟩ := id ha
  refine v_ic (v := nI 0) hz dX0_fillBoth_0 (by decide) ?_
  refine v_istore hz dX0_fillBoth_1 (by decide) rfl ?_
  exact v_sub (lp_X0_fb1 ha hz hg1 hg2 hb1 hb2 h1 h2 hr (S.1 + 1) 0 I (by omega) (by omega) Fa.rf (fun i' j' _ _ q => absurd q (by omega))) ⟨rfl, rfl, rfl, rfl, rfl, trivial⟩
set_option maxHeartbeats 4000000 in
set_option maxRecDepth 100000 in
theorem lp_X0_fr1 {z : Zz} {κ : Kz} {I0 : Iz} {R : Rz} {J : Jz} {A : Nat → Nat} (ha : LAg κ R A) (hz : Am z cX0_fillRest RX0 10 2) {w b1 b2 : Nat} {S T : Sg} (hg1 : LGg κ R A b1) (hg2 : LGg κ R A b2) (hb1 : 200 ≤ b1) (hb2 : 200 ≤ b2) (h1 : csg I0 A b1 S) (h2 : csg I0 A b2 T) (K : ∀ I1, Fa A I0 I1 → boF I1 A w S T (fun _ _ => True) → reF I1 A w S T (fun _ j => j = T.1) → V z 10 0 0 74 [(0, .ref (A 5)), (1, .ref (A b1)), (2, .ref (A b2)), (3, .int (nI w)), (4, .int (nI S.1)), (5, .int (nI T.1))] [] κ I1 R J) :
    ∀ (q : Nat) (I : Iz), q ≤ S.1 → Fa A I0 I → boF I A w S T (fun _ _ => True) → reF I A w S T (fun i j => j = T.1 ∧ q ≤ i) → V z 10 0 0 29 [(0, .ref (A 5)), (1, .ref (A b1)), (2, .ref (A b2)), (3, .int (nI w)), (4, .int (nI S.1)), (5, .int (nI T.1)), (6, .int (ip q))] [] κ I R J := by
  obtain ⟨hk, ⟨hR0, hK6, hN6, hrb⟩, ⟨hR1, hK7, hN7, hrr⟩, ⟨hR2, hK8, hN8, ho8⟩⟩ := id ha
  obtain ⟨sk, so, ⟨sR0, sK1, sN1, so1⟩, -, srow⟩ := id hg1
  obtain ⟨tk, to, ⟨tR0, tK1, tN1, to1⟩, -, trow⟩ := id hg2
  intro q
  induction q with
  | zero =>
    intro I hq hF hbo hre
    refine v_iload hz dX0_fillRest_29 rfl ?_
    refine v_if_lt hz 74 dX0_fillRest_31 (by decide) (fun c => ?_) (fun c => ?_)
    · exact v_sub (K I hF hbo (hre.to (fun i j _ _ e => ⟨e, Nat.zero_le _⟩))) ⟨rfl, rfl, rfl, rfl, rfl, rfl, trivial⟩
    · exact absurd (by decide : ip 0 < 0) c
  | succ q ih =>
  intro I hq hF hbo hre
  have g1 : csg I A b1 S := h1.fa ha hF hg1 hb1
  have g2 : csg I A b2 T := h2.fa ha hF hg2 hb2
  have hS := h1.1
  have hT := h2.1
  show V z 10 0 0 29 [(0, .ref (A 5)), (1, .ref (A b1)), (2, .ref (A b2)), (3, .int (nI w)), (4, .int (nI S.1)), (5, .int (nI T.1)), (6, .int (nI q))] [] κ I R J
  obtain ⟨raR, raK, raN, raO⟩ := hrr q (by omega)
  obtain ⟨rbR, rbK, rbN, rbO⟩ := hrr (q + 1) (by omega)
  refine v_iload hz dX0_fillRest_29 rfl ?_
  refine v_if_lt hz 74 dX0_fillRest_31 (by decide) (fun c31 => ?_) (fun c31 => ?_)
  · exact absurd c31 (nI_pos (by omega))
  · refine v_aload_n hz dX0_fillRest_34 rfl ?_
    refine v_getR hz fX0_16 (by assumption) (by assumption) dX0_fillRest_35 ?_
    refine v_iload hz dX0_fillRest_38 rfl ?_
    refine v_aaldN hz (by omega) (by assumption) (by omega) (by decide) raR dX0_fillRest_40 ?_
    refine v_iload hz dX0_fillRest_41 rfl ?_
    refine v_aload_n hz dX0_fillRest_43 rfl ?_
    refine v_getR hz fX0_16 (by assumption) (by assumption) dX0_fillRest_44 ?_
    refine v_iload hz dX0_fillRest_47 rfl ?_
    refine v_ic (v := nI 1) hz dX0_fillRest_49 (by decide) ?_
    first | with_reducible refine v_iaddN hz dX0_fillRest_50 ?_ | refine v_iadd hz dX0_fillRest_50 ?_
    refine v_aaldN hz (by omega) (by assumption) (by omega) (by decide) rbR dX0_fillRest_51 ?_
    refine v_iload hz dX0_fillRest_52 rfl ?_
    refine v_ialdN hz (by assumption) (by assumption) (by omega) (by decide) dX0_fillRest_54 ?_
    refine v_top (y := nI (pay w S T (q + 1) T.1)) (hre (q + 1) T.1 (by omega) (Nat.le_refl _) ⟨rfl, by omega⟩) ?_
    refine v_aload_n hz dX0_fillRest_55 rfl ?_
    refine v_getR hz fX0_77 (by assumption) (by assumption) dX0_fillRest_56 ?_
    refine v_iload hz dX0_fillRest_59 rfl ?_
    refine v_aaldN hz (by omega) (by assumption) (by omega) (by decide) (srow q (by omega)).1 dX0_fillRest_61 ?_
    refine v_iload_n hz dX0_fillRest_62 rfl ?_
    have hsk := (srow q (by omega)).2.1
    refine v_callVi hz lX0_96 (cX6_cost_ok _ _ _ _ _ _ A _ (srow q (by omega)).2 _ w (g1.2.2.2 q (by omega)).1 (g1.2.2.2 q (by omega)).2.1) (by assumption) rfl rfl (Nat.le_of_ble_eq_true rfl) (by decide) ⟨Nat.zero_le _, Nat.zero_le _⟩ dX0_fillRest_63 (fun r I1 h63 => ?_)
    obtain ⟨rfl, rfl⟩ := h63
    first | with_reducible refine v_iaddN hz dX0_fillRest_66 ?_ | refine v_iadd hz dX0_fillRest_66 ?_
    refine v_iastN hz (by assumption) (by assumption) (by omega) (by decide) dX0_fillRest_67 ?_
    refine v_iincE hz dX0_fillRest_68 rfl (ip_dec q) (by decide) rfl ?_
    refine v_goto hz 29 dX0_fillRest_71 (by decide) ?_
    exact v_sub (ih _ (by omega) (hF.put (aT40 (by omega))) (hbo.keepR ha hS (Or.inr ⟨by omega, by omega⟩)) (hre.put ha hS (by omega) (pay_im (by omega)).symm (fun i' j' _ _ e => by omega))) ⟨rfl, rfl, rfl, rfl, rfl, rfl, rfl, trivial⟩
set_option maxHeartbeats 4000000 in
set_option maxRecDepth 100000 in
theorem lp_X0_fr2 {z : Zz} {κ : Kz} {I0 : Iz} {R : Rz} {J : Jz} {A : Nat → Nat} (ha : LAg κ R A) (hz : Am z cX0_fillRest RX0 10 2) {w b1 b2 : Nat} {S T : Sg} (hg1 : LGg κ R A b1) (hg2 : LGg κ R A b2) (hb1 : 200 ≤ b1) (hb2 : 200 ≤ b2) (h1 : csg I0 A b1 S) (h2 : csg I0 A b2 T) (K : ∀ I1, Fa A I0 I1 → boF I1 A w S T (fun _ _ => True) → reF I1 A w S T (fun i j => j = T.1 ∨ i = S.1) → V z 10 0 0 125 [(0, .ref (A 5)), (1, .ref (A b1)), (2, .ref (A b2)), (3, .int (nI w)), (4, .int (nI S.1)), (5, .int (nI T.1))] [] κ I1 R J) :
    ∀ (q : Nat) (I : Iz), q ≤ T.1 → Fa A I0 I → boF I A w S T (fun _ _ => True) → reF I A w S T (fun i j => j = T.1 ∨ (i = S.1 ∧ q ≤ j)) → V z 10 0 0 80 [(0, .ref (A 5)), (1, .ref (A b1)), (2, .ref (A b2)), (3, .int (nI w)), (4, .int (nI S.1)), (5, .int (nI T.1)), (6, .int (ip q))] [] κ I R J := by
  obtain ⟨hk, ⟨hR0, hK6, hN6, hrb⟩, ⟨hR1, hK7, hN7, hrr⟩, ⟨hR2, hK8, hN8, ho8⟩⟩ := id ha
  obtain ⟨sk, so, ⟨sR0, sK1, sN1, so1⟩, -, srow⟩ := id hg1
  obtain ⟨tk, to, ⟨tR0, tK1, tN1, to1⟩, -, trow⟩ := id hg2
  intro q
  induction q with
  | zero =>
    intro I hq hF hbo hre
    refine v_iload hz dX0_fillRest_80 rfl ?_
    refine v_if_lt hz 125 dX0_fillRest_82 (by decide) (fun c => ?_) (fun c => ?_)
    · exact v_sub (K I hF hbo (hre.to (fun i j _ _ e => by omega))) ⟨rfl, rfl, rfl, rfl, rfl, rfl, trivial⟩
    · exact absurd (by decide : ip 0 < 0) c
  | succ q ih =>
  intro I hq hF hbo hre
  have g1 : csg I A b1 S := h1.fa ha hF hg1 hb1
  have g2 : csg I A b2 T := h2.fa ha hF hg2 hb2
  have hS := h1.1
  have hT := h2.1
  show V z 10 0 0 80 [(0, .ref (A 5)), (1, .ref (A b1)), (2, .ref (A b2)), (3, .int (nI w)), (4, .int (nI S.1)), (5, .int (nI T.1)), (6, .int (nI q))] [] κ I R J
  obtain ⟨raR, raK, raN, raO⟩ := hrr S.1 (by omega)
  refine v_iload hz dX0_fillRest_80 rfl ?_
  refine v_if_lt hz 125 dX0_fillRest_82 (by decide) (fun c82 => ?_) (fun c82 => ?_)
  · exact absurd c82 (nI_pos (by omega))
  · refine v_aload_n hz dX0_fillRest_85 rfl ?_
    refine v_getR hz fX0_16 (by assumption) (by assumption) dX0_fillRest_86 ?_
    refine v_iload hz dX0_fillRest_89 rfl ?_
    refine v_aaldN hz (by omega) (by assumption) (by omega) (by decide) raR dX0_fillRest_91 ?_
    refine v_iload hz dX0_fillRest_92 rfl ?_
    refine v_aload_n hz dX0_fillRest_94 rfl ?_
    refine v_getR hz fX0_16 (by assumption) (by assumption) dX0_fillRest_95 ?_
    refine v_iload hz dX0_fillRest_98 rfl ?_
    refine v_aaldN hz (by omega) (by assumption) (by omega) (by decide) raR dX0_fillRest_100 ?_
    refine v_iload hz dX0_fillRest_101 rfl ?_
    refine v_ic (v := nI 1) hz dX0_fillRest_103 (by decide) ?_
    first | with_reducible refine v_iaddN hz dX0_fillRest_104 ?_ | refine v_iadd hz dX0_fillRest_104 ?_
    refine v_ialdN hz (by assumption) (by assumption) (by omega) (by decide) dX0_fillRest_105 ?_
    refine v_top (y := nI (pay w S T S.1 (q + 1))) (hre S.1 (q + 1) (Nat.le_refl _) (by omega) (by omega)) ?_
    refine v_aload_n hz dX0_fillRest_106 rfl ?_
    refine v_getR hz fX0_77 (by assumption) (by assumption) dX0_fillRest_107 ?_
    refine v_iload hz dX0_fillRest_110 rfl ?_
    refine v_aaldN hz (by omega) (by assumption) (by omega) (by decide) (trow q (by omega)).1 dX0_fillRest_112 ?_
    refine v_iload_n hz dX0_fillRest_113 rfl ?_
    have hsk := (trow q (by omega)).2.1
    refine v_callVi hz lX0_96 (cX6_cost_ok _ _ _ _ _ _ A _ (trow q (by omega)).2 _ w (g2.2.2.2 q (by omega)).1 (g2.2.2.2 q (by omega)).2.1) (by assumption) rfl rfl (Nat.le_of_ble_eq_true rfl) (by decide) ⟨Nat.zero_le _, Nat.zero_le _⟩ dX0_fillRest_114 (fun r I1 h114 => ?_)
    obtain ⟨rfl, rfl⟩ := h114
    first | with_reducible refine v_iaddN hz dX0_fillRest_117 ?_ | refine v_iadd hz dX0_fillRest_117 ?_
    refine v_iastN hz (by assumption) (by assumption) (by omega) (by decide) dX0_fillRest_118 ?_
    refine v_iincE hz dX0_fillRest_119 rfl (ip_dec q) (by decide) rfl ?_
    refine v_goto hz 80 dX0_fillRest_122 (by decide) ?_
    exact v_sub (ih _ (by omega) (hF.put (aT40 (by omega))) (hbo.keepR ha hS (Or.inr ⟨by omega, by omega⟩)) (hre.put ha hS (Nat.le_refl _) (pay_nj (by omega)).symm (fun i' j' _ _ e => by omega))) ⟨rfl, rfl, rfl, rfl, rfl, rfl, rfl, trivial⟩
set_option maxHeartbeats 4000000 in
set_option maxRecDepth 100000 in
theorem lp_X0_fr4 {z : Zz} {κ : Kz} {I0 : Iz} {R : Rz} {J : Jz} {A : Nat → Nat} (ha : LAg κ R A) (hz : Am z cX0_fillRest RX0 10 2) {w b1 b2 : Nat} {S T : Sg} (hg1 : LGg κ R A b1) (hg2 : LGg κ R A b2) (hb1 : 200 ≤ b1) (hb2 : 200 ≤ b2) (h1 : csg I0 A b1 S) (h2 : csg I0 A b2 T) (hw : w ≤ 20) (p : Nat) (hp : p < S.1) (K : ∀ I1, Fa A I0 I1 → boF I1 A w S T (fun _ _ => True) → reF I1 A w S T (fun i j => j = T.1 ∨ i = S.1 ∨ p ≤ i) → V z 10 0 0 258 [(0, .ref (A 5)), (1, .ref (A b1)), (2, .ref (A b2)), (3, .int (nI w)), (4, .int (nI S.1)), (5, .int (nI T.1)), (6, .int (nI p))] [] κ I1 R J) :
    ∀ (q : Nat) (I : Iz), q ≤ T.1 → Fa A I0 I → boF I A w S T (fun _ _ => True) → reF I A w S T (fun i j => j = T.1 ∨ i = S.1 ∨ p < i ∨ (i = p ∧ q ≤ j)) → V z 10 0 0 155 [(0, .ref (A 5)), (1, .ref (A b1)), (2, .ref (A b2)), (3, .int (nI w)), (4, .int (nI S.1)), (5, .int (nI T.1)), (6, .int (nI p)), (7, .int (nI (cst w (S.2.1 p)))), (8, .int (ip q))] [] κ I R J := by
  obtain ⟨hk, ⟨hR0, hK6, hN6, hrb⟩, ⟨hR1, hK7, hN7, hrr⟩, ⟨hR2, hK8, hN8, ho8⟩⟩ := id ha
  obtain ⟨sk, so, ⟨sR0, sK1, sN1, so1⟩, -, srow⟩ := id hg1
  obtain ⟨tk, to, ⟨tR0, tK1, tN1, to1⟩, -, trow⟩ := id hg2
  intro q
  induction q with
  | zero =>
    intro I hq hF hbo hre
    refine v_iload hz dX0_fillRest_155 rfl ?_
    refine v_if_lt hz 258 dX0_fillRest_157 (by decide) (fun c => ?_) (fun c => ?_)
    · exact v_sub (K I hF hbo (hre.to (fun i j _ _ e => by omega))) ⟨rfl, rfl, rfl, rfl, rfl, rfl, rfl, trivial⟩
    · exact absurd (by decide : ip 0 < 0) c
  | succ q ih =>
  intro I hq hF hbo hre
  have g1 : csg I A b1 S := h1.fa ha hF hg1 hb1
  have g2 : csg I A b2 T := h2.fa ha hF hg2 hb2
  have hS := h1.1
  have hT := h2.1
  show V z 10 0 0 155 [(0, .ref (A 5)), (1, .ref (A b1)), (2, .ref (A b2)), (3, .int (nI w)), (4, .int (nI S.1)), (5, .int (nI T.1)), (6, .int (nI p)), (7, .int (nI (cst w (S.2.1 p)))), (8, .int (nI q))] [] κ I R J
  obtain ⟨raR, raK, raN, raO⟩ := hrr p (by omega)
  obtain ⟨rbR, rbK, rbN, rbO⟩ := hrr (p + 1) (by omega)
  obtain ⟨bbR, bbK, bbN, bbO⟩ := hrb p (by omega)
  have p1 := pay_le hw hS hT (p + 1) (q + 1)
  have p2 := pay_le hw hS hT (p + 1) q
  have p3 := pay_le hw hS hT p (q + 1)
  have q1 := cst_le (L := S.2.1 p) hw
  have q2 := cst_le (L := T.2.1 q) hw
  have q3 := bcn_le (N := 1000000) (S := S) (T := T) (i := p) (j := q) (by decide) (g1.2.2.2 p (by omega)).1 (g2.2.2.2 q (by omega)).1 hw
  refine v_iload hz dX0_fillRest_155 rfl ?_
  refine v_if_lt hz 258 dX0_fillRest_157 (by decide) (fun c157 => ?_) (fun c157 => ?_)
  · exact absurd c157 (nI_pos (by omega))
  · refine v_aload_n hz dX0_fillRest_160 rfl ?_
    refine v_getR hz fX0_11 (by assumption) (by assumption) dX0_fillRest_161 ?_
    refine v_iload hz dX0_fillRest_164 rfl ?_
    refine v_aaldN hz (by omega) (by assumption) (by omega) (by decide) bbR dX0_fillRest_166 ?_
    refine v_iload hz dX0_fillRest_167 rfl ?_
    refine v_ialdN hz (by assumption) (by assumption) (by omega) (by decide) dX0_fillRest_169 ?_
    refine v_top (y := nI (bcn 1000000 w S T p q)) (hbo p q (by omega) (by omega) trivial) ?_
    refine v_aload_n hz dX0_fillRest_170 rfl ?_
    refine v_getR hz fX0_16 (by assumption) (by assumption) dX0_fillRest_171 ?_
    refine v_iload hz dX0_fillRest_174 rfl ?_
    refine v_ic (v := nI 1) hz dX0_fillRest_176 (by decide) ?_
    first | with_reducible refine v_iaddN hz dX0_fillRest_177 ?_ | refine v_iadd hz dX0_fillRest_177 ?_
    refine v_aaldN hz (by omega) (by assumption) (by omega) (by decide) rbR dX0_fillRest_178 ?_
    refine v_iload hz dX0_fillRest_179 rfl ?_
    refine v_ic (v := nI 1) hz dX0_fillRest_181 (by decide) ?_
    first | with_reducible refine v_iaddN hz dX0_fillRest_182 ?_ | refine v_iadd hz dX0_fillRest_182 ?_
    refine v_ialdN hz (by assumption) (by assumption) (by omega) (by decide) dX0_fillRest_183 ?_
    refine v_top (y := nI (pay w S T (p + 1) (q + 1))) (hre (p + 1) (q + 1) (by omega) (by omega) (by omega)) ?_
    first | with_reducible refine v_iaddN hz dX0_fillRest_184 ?_ | refine v_iadd hz dX0_fillRest_184 ?_
    refine v_istore hz dX0_fillRest_185 (by decide) rfl ?_
    refine v_iload hz dX0_fillRest_187 rfl ?_
    refine v_iload hz dX0_fillRest_189 rfl ?_
    refine v_aload_n hz dX0_fillRest_191 rfl ?_
    refine v_getR hz fX0_16 (by assumption) (by assumption) dX0_fillRest_192 ?_
    refine v_iload hz dX0_fillRest_195 rfl ?_
    refine v_ic (v := nI 1) hz dX0_fillRest_197 (by decide) ?_
    first | with_reducible refine v_iaddN hz dX0_fillRest_198 ?_ | refine v_iadd hz dX0_fillRest_198 ?_
    refine v_aaldN hz (by omega) (by assumption) (by omega) (by decide) rbR dX0_fillRest_199 ?_
    refine v_iload hz dX0_fillRest_200 rfl ?_
    refine v_ialdN hz (by assumption) (by assumption) (by omega) (by decide) dX0_fillRest_202 ?_
    refine v_top (y := nI (pay w S T (p + 1) q)) (hre (p + 1) q (by omega) (by omega) (by omega)) ?_
    first | with_reducible refine v_iaddN hz dX0_fillRest_203 ?_ | refine v_iadd hz dX0_fillRest_203 ?_
    refine v_mmin hz (tg_mem 554 (by decide +kernel) rfl) (tg_mem 555 (by decide +kernel) rfl) (tg_mem 82 (by decide +kernel) rfl) (tg_mem 556 (by decide +kernel) rfl) (by decide) (Nat.le_of_ble_eq_true rfl) ⟨Nat.zero_le _, Nat.zero_le _⟩ dX0_fillRest_204 ?_
    refine v_top (mmin_N (by omega) (by omega)) ?_
    refine v_istore hz dX0_fillRest_207 (by decide) rfl ?_
    refine v_iload hz dX0_fillRest_209 rfl ?_
    refine v_aload_n hz dX0_fillRest_211 rfl ?_
    refine v_getR hz fX0_77 (by assumption) (by assumption) dX0_fillRest_212 ?_
    refine v_iload hz dX0_fillRest_215 rfl ?_
    refine v_aaldN hz (by omega) (by assumption) (by omega) (by decide) (trow q (by omega)).1 dX0_fillRest_217 ?_
    refine v_iload_n hz dX0_fillRest_218 rfl ?_
    have hsk := (trow q (by omega)).2.1
    refine v_callVi hz lX0_96 (cX6_cost_ok _ _ _ _ _ _ A _ (trow q (by omega)).2 _ w (g2.2.2.2 q (by omega)).1 (g2.2.2.2 q (by omega)).2.1) (by assumption) rfl rfl (Nat.le_of_ble_eq_true rfl) (by decide) ⟨Nat.zero_le _, Nat.zero_le _⟩ dX0_fillRest_219 (fun r I1 h219 => ?_)
    obtain ⟨rfl, rfl⟩ := h219
    refine v_aload_n hz dX0_fillRest_222 rfl ?_
    refine v_getR hz fX0_16 (by assumption) (by assumption) dX0_fillRest_223 ?_
    refine v_iload hz dX0_fillRest_226 rfl ?_
    refine v_aaldN hz (by omega) (by assumption) (by omega) (by decide) raR dX0_fillRest_228 ?_
    refine v_iload hz dX0_fillRest_229 rfl ?_
    refine v_ic (v := nI 1) hz dX0_fillRest_231 (by decide) ?_
    first | with_reducible refine v_iaddN hz dX0_fillRest_232 ?_ | refine v_iadd hz dX0_fillRest_232 ?_
    refine v_ialdN hz (by assumption) (by assumption) (by omega) (by decide) dX0_fillRest_233 ?_
    refine v_top (y := nI (pay w S T p (q + 1))) (hre p (q + 1) (by omega) (by omega) (by omega)) ?_
    first | with_reducible refine v_iaddN hz dX0_fillRest_234 ?_ | refine v_iadd hz dX0_fillRest_234 ?_
    refine v_mmin hz (tg_mem 554 (by decide +kernel) rfl) (tg_mem 555 (by decide +kernel) rfl) (tg_mem 82 (by decide +kernel) rfl) (tg_mem 556 (by decide +kernel) rfl) (by decide) (Nat.le_of_ble_eq_true rfl) ⟨Nat.zero_le _, Nat.zero_le _⟩ dX0_fillRest_235 ?_
    refine v_top (mmin_N (by omega) (by omega)) ?_
    refine v_istore hz dX0_fillRest_238 (by decide) rfl ?_
    refine v_aload_n hz dX0_fillRest_240 rfl ?_
    refine v_getR hz fX0_16 (by assumption) (by assumption) dX0_fillRest_241 ?_
    refine v_iload hz dX0_fillRest_244 rfl ?_
    refine v_aaldN hz (by omega) (by assumption) (by omega) (by decide) raR dX0_fillRest_246 ?_
    refine v_iload hz dX0_fillRest_247 rfl ?_
    refine v_iload hz dX0_fillRest_249 rfl ?_
    refine v_iastN hz (by assumption) (by assumption) (by omega) (by decide) dX0_fillRest_251 ?_
    refine v_iincE hz dX0_fillRest_252 rfl (ip_dec q) (by decide) rfl ?_
    refine v_goto hz 155 dX0_fillRest_255 (by decide) ?_
    exact v_sub (ih _ (by omega) (hF.put (aT40 (by omega))) (hbo.keepR ha hS (Or.inr ⟨by omega, by omega⟩)) (hre.put ha hS (by omega) (by rw [pay_ij hp (show q < T.1 by omega)]; omega) (fun i' j' _ _ e => by omega))) ⟨rfl, rfl, rfl, rfl, rfl, rfl, rfl, rfl, rfl, trivial⟩
set_option maxHeartbeats 4000000 in
set_option maxRecDepth 100000 in
theorem lp_X0_fr3 {z : Zz} {κ : Kz} {I0 : Iz} {R : Rz} {J : Jz} {A : Nat → Nat} (ha : LAg κ R A) (hz : Am z cX0_fillRest RX0 10 2) {w b1 b2 : Nat} {S T : Sg} (hg1 : LGg κ R A b1) (hg2 : LGg κ R A b2) (hb1 : 200 ≤ b1) (hb2 : 200 ≤ b2) (h1 : csg I0 A b1 S) (h2 : csg I0 A b2 T) (hw : w ≤ 20) (hr : Rt z yX0_fillRest none 0 0 (Sv κ R J (fun I1 => Fa A I0 I1 ∧ boF I1 A w S T (fun _ _ => True) ∧ reF I1 A w S T (fun _ _ => True)))) :
    ∀ (p : Nat) (I : Iz), p ≤ S.1 → Fa A I0 I → boF I A w S T (fun _ _ => True) → reF I A w S T (fun i j => j = T.1 ∨ i = S.1 ∨ p ≤ i) → V z 10 0 0 131 [(0, .ref (A 5)), (1, .ref (A b1)), (2, .ref (A b2)), (3, .int (nI w)), (4, .int (nI S.1)), (5, .int (nI T.1)), (6, .int (ip p))] [] κ I R J := by
  obtain ⟨hk, ⟨hR0, hK6, hN6, hrb⟩, ⟨hR1, hK7, hN7, hrr⟩, ⟨hR2, hK8, hN8, ho8⟩⟩ := id ha
  obtain ⟨sk, so, ⟨sR0, sK1, sN1, so1⟩, -, srow⟩ := id hg1
  obtain ⟨tk, to, ⟨tR0, tK1, tN1, to1⟩, -, trow⟩ := id hg2
  intro p
  induction p with
  | zero =>
    intro I hq hF hbo hre
    refine v_iload hz dX0_fillRest_131 rfl ?_
    refine v_if_lt hz 264 dX0_fillRest_133 (by decide) (fun c => ?_) (fun c => ?_)
    · exact v_vret hz hr dX0_fillRest_264 ⟨hF, hbo, hre.to (fun i j _ _ e => by omega)⟩
    · exact absurd (by decide : ip 0 < 0) c
  | succ p ih =>
  intro I hq hF hbo hre
  have g1 : csg I A b1 S := h1.fa ha hF hg1 hb1
  have g2 : csg I A b2 T := h2.fa ha hF hg2 hb2
  have hS := h1.1
  have hT := h2.1
  show V z 10 0 0 131 [(0, .ref (A 5)), (1, .ref (A b1)), (2, .ref (A b2)), (3, .int (nI w)), (4, .int (nI S.1)), (5, .int (nI T.1)), (6, .int (nI p))] [] κ I R J
  refine v_iload hz dX0_fillRest_131 rfl ?_
  refine v_if_lt hz 264 dX0_fillRest_133 (by decide) (fun c133 => ?_) (fun c133 => ?_)
  · exact absurd c133 (nI_pos (by omega))
  · refine v_aload_n hz dX0_fillRest_136 rfl ?_
    refine v_getR hz fX0_77 (by assumption) (by assumption) dX0_fillRest_137 ?_
    refine v_iload hz dX0_fillRest_140 rfl ?_
    refine v_aaldN hz (by omega) (by assumption) (by omega) (by decide) (srow p (by omega)).1 dX0_fillRest_142 ?_
    refine v_iload_n hz dX0_fillRest_143 rfl ?_
    have hsk := (srow p (by omega)).2.1
    refine v_callVi hz lX0_96 (cX6_cost_ok _ _ _ _ _ _ A _ (srow p (by omega)).2 _ w (g1.2.2.2 p (by omega)).1 (g1.2.2.2 p (by omega)).2.1) (by assumption) rfl rfl (Nat.le_of_ble_eq_true rfl) (by decide) ⟨Nat.zero_le _, Nat.zero_le _⟩ dX0_fillRest_144 (fun r I1 h144 => ?_)
    obtain ⟨rfl, rfl⟩ := h144
    refine v_istore hz dX0_fillRest_147 (by decide) rfl ?_
    refine v_iload hz dX0_fillRest_149 rfl ?_
    refine v_ic (v := nI 1) hz dX0_fillRest_151 (by decide) ?_
    refine v_isub hz dX0_fillRest_152 ?_
    refine v_top (y := ip T.1) (by cases hT9 : T.1 with
      | zero => rfl
      | succ m => exact pk_sub (a := m + 1) (b := 1) (by omega)) ?_
    refine v_istore hz dX0_fillRest_153 (by decide) rfl ?_
    refine v_sub (lp_X0_fr4 ha hz hg1 hg2 hb1 hb2 h1 h2 hw p (by omega) (fun I1 hF1 hbo1 hre1 => ?_) T.1 _ (Nat.le_refl _) hF hbo (hre.to (fun i j _ _ e => by omega))) ⟨rfl, rfl, rfl, rfl, rfl, rfl, rfl, rfl, rfl, trivial⟩
    refine v_iincE hz dX0_fillRest_258 rfl (ip_dec p) (by decide) rfl ?_
    refine v_goto hz 131 dX0_fillRest_261 (by decide) ?_
    exact v_sub (ih I1 (by omega) hF1 hbo1 hre1) ⟨rfl, rfl, rfl, rfl, rfl, rfl, rfl, trivial⟩
set_option maxHeartbeats 4000000 in
set_option maxRecDepth 100000 in
theorem cX0_fillRest_ok (l : Launch) (g : Gz) (κ : Kz) (I : Iz) (R : Rz) (J : Jz) (A : Nat → Nat) (ha : LAg κ R A) (w b1 b2 : Nat) (S T : Sg) (hg1 : LGg κ R A b1) (hg2 : LGg κ R A b2) (hb1 : 200 ≤ b1) (hb2 : 200 ≤ b2) (h1 : csg I A b1 S) (h2 : csg I A b2 T) (hw : w ≤ 20) (hbo : boF I A w S T (fun _ _ => True)) : Ct l mX0_fillRest 0 0 g [.ref (A 5), .ref (A b1), .ref (A b2), .int (nI w)] κ I R J (Sv κ R J (fun I1 => Fa A I I1 ∧ boF I1 A w S T (fun _ _ => True) ∧ reF I1 A w S T (fun _ _ => True))) := by
  refine ct_of (by decide) (Nat.le_of_ble_eq_true rfl) ?_
  intro z hz hr hrc hrs
  have hz : Am z cX0_fillRest RX0 10 2 := hz
  have hr : Rt z yX0_fillRest none 0 0 _ := hr
  show V z 10 0 0 0 [(0, .ref (A 5)), (1, .ref (A b1)), (2, .ref (A b2)), (3, .int (nI w))] [] κ I R J
  obtain ⟨hk, ⟨hR0, hK6, hN6, hrb⟩, ⟨hR1, hK7, hN7, hrr⟩, ⟨hR2, hK8, hN8, ho8⟩⟩ := id ha
  obtain ⟨sk, so, ⟨sR0, sK1, sN1, so1⟩, -, srow⟩ := id hg1
  obtain ⟨tk, to, ⟨tR0, tK1, tN1, to1⟩, -, trow⟩ := id hg2
  have hS := h1.1
  have hT := h2.1
  obtain ⟨raR, raK, raN, raO⟩ := hrr S.1 (by omega)
  refine v_aload_n hz dX0_fillRest_0 rfl ?_
  refine v_getI hz fX0_74 (by assumption) dX0_fillRest_1 ?_
  refine v_top h1.2.1 ?_
  refine v_istore hz dX0_fillRest_4 (by decide) rfl ?_
  refine v_aload_n hz dX0_fillRest_6 rfl ?_
  refine v_getI hz fX0_74 (by assumption) dX0_fillRest_7 ?_
  refine v_top h2.2.1 ?_
  refine v_istore hz dX0_fillRest_10 (by decide) rfl ?_
  refine v_aload_n hz dX0_fillRest_12 rfl ?_
  refine v_getR hz fX0_16 (by assumption) (by assumption) dX0_fillRest_13 ?_
  refine v_iload hz dX0_fillRest_16 rfl ?_
  refine v_aaldN hz (by omega) (by assumption) (by omega) (by decide) raR dX0_fillRest_18 ?_
  refine v_iload hz dX0_fillRest_19 rfl ?_
  refine v_ic (v := nI 0) hz dX0_fillRest_21 (by decide) ?_
  refine v_iastN hz (by assumption) (by assumption) (by omega) (by decide) dX0_fillRest_22 ?_
  refine v_iload hz dX0_fillRest_23 rfl ?_
  refine v_ic (v := nI 1) hz dX0_fillRest_25 (by decide) ?_
  refine v_isub hz dX0_fillRest_26 ?_
  refine v_top (y := ip S.1) (by cases hT9 : S.1 with
    | zero => rfl
    | succ m => exact pk_sub (a := m + 1) (b := 1) (by omega)) ?_
  refine v_istore hz dX0_fillRest_27 (by decide) rfl ?_
  refine v_sub (lp_X0_fr1 ha hz hg1 hg2 hb1 hb2 h1 h2 (fun I1 hF1 hbo1 hre1 => ?_) S.1 _ (Nat.le_refl _) (Fa.rf.put (aT40 (by omega))) (hbo.keepR ha hS (Or.inr ⟨by omega, by omega⟩)) (reF.put (P := fun _ _ => False) ha (fun _ _ _ _ q => q.elim) hS (Nat.le_refl _) (pay_nm w S T).symm (fun i' j' a1 a2 e => Or.inr ⟨by omega, e.1⟩))) ⟨rfl, rfl, rfl, rfl, rfl, rfl, rfl, trivial⟩
  refine v_iload hz dX0_fillRest_74 rfl ?_
  refine v_ic (v := nI 1) hz dX0_fillRest_76 (by decide) ?_
  refine v_isub hz dX0_fillRest_77 ?_
  refine v_top (y := ip T.1) (by cases hT9 : T.1 with
    | zero => rfl
    | succ m => exact pk_sub (a := m + 1) (b := 1) (by omega)) ?_
  refine v_istore hz dX0_fillRest_78 (by decide) rfl ?_
  refine v_sub (lp_X0_fr2 ha hz hg1 hg2 hb1 hb2 h1 h2 (fun I2 hF2 hbo2 hre2 => ?_) T.1 I1 (Nat.le_refl _) hF1 hbo1 (hre1.to (fun i j _ _ e => by omega))) ⟨rfl, rfl, rfl, rfl, rfl, rfl, rfl, trivial⟩
  refine v_iload hz dX0_fillRest_125 rfl ?_
  refine v_ic (v := nI 1) hz dX0_fillRest_127 (by decide) ?_
  refine v_isub hz dX0_fillRest_128 ?_
  refine v_top (y := ip S.1) (by cases hT9 : S.1 with
    | zero => rfl
    | succ m => exact pk_sub (a := m + 1) (b := 1) (by omega)) ?_
  refine v_istore hz dX0_fillRest_129 (by decide) rfl ?_
  exact v_sub (lp_X0_fr3 ha hz hg1 hg2 hb1 hb2 h1 h2 hw hr S.1 I2 (Nat.le_refl _) hF2 hbo2 (hre2.to (fun i j _ _ e => by omega))) ⟨rfl, rfl, rfl, rfl, rfl, rfl, rfl, trivial⟩
