/-! ===== the class: a segment, its cells at the tags b .. b + 18 ===== -/
def LGg (κ : Kz) (R : Rz) (A : Nat → Nat) (b : Nat) : Prop := κ.1 (A b) = 5 ∧ κ.2.2 (A b) = b ∧ (R (A b) 0 = some (A (b + 1)) ∧ κ.1 (A (b + 1)) = 13 ∧ κ.2.1 (A (b + 1)) = 8 ∧ κ.2.2 (A (b + 1)) = b + 1) ∧ (R (A b) 1 = some (A (b + 2)) ∧ κ.1 (A (b + 2)) = 9 ∧ κ.2.1 (A (b + 2)) = 56 ∧ κ.2.2 (A (b + 2)) = b + 2) ∧ ∀ i, i < 8 → R (A (b + 1)) i = some (A (b + 3 + 2 * i)) ∧ LSg κ R A (b + 3 + 2 * i)
/-- its signs -/
def csg (I : Iz) (A : Nat → Nat) (b : Nat) (S : Sg) : Prop := S.1 ≤ 8 ∧ I (A b) 2 = nI S.1 ∧ I (A b) 3 = nI (wds S) ∧ ∀ i, i < S.1 → csn I A (b + 3 + 2 * i) (S.2.1 i) (S.2.2.1 i) (S.2.2.2 i)
/-- its row of grams: n of them, G, in order -/
def cgr (I : Iz) (A : Nat → Nat) (b n : Nat) (G : Nat → Nat) : Prop := n ≤ 56 ∧ I (A b) 4 = nI n ∧ (∀ i, i < n → I (A (b + 2)) i = nI (G i) ∧ G i < 729) ∧ ∀ i j, i ≤ j → j < n → G i ≤ G j
def cnt (G : Nat → Nat) (n c : Nat) : Nat := sm (fun i => if G i = c then 1 else 0) n
theorem cgr.keep {I I1 : Iz} {A : Nat → Nat} {b n : Nat} {G : Nat → Nat} (h : cgr I A b n G) (h4 : I1 (A b) 4 = I (A b) 4) (h2 : I1 (A (b + 2)) = I (A (b + 2))) : cgr I1 A b n G := by
  unfold cgr
  rw [h4, h2]
  exact h
def ins (G : Nat → Nat) (a x : Nat) : Nat → Nat := fun i => if i < a then G i else if i = a then x else G (i - 1)
theorem ins_cnt {G : Nat → Nat} {a x c : Nat} : ∀ d, cnt (ins G a x) (a + d + 1) c = cnt G (a + d) c + (if x = c then 1 else 0)
  | 0 => by
    have h : cnt (ins G a x) a c = cnt G a c := sm_congr (fun i hi => by unfold ins; rw [if_pos hi])
    show cnt (ins G a x) a c + (if ins G a x a = c then 1 else 0) = cnt G a c + _
    have e : ins G a x a = x := by unfold ins; rw [if_neg (Nat.lt_irrefl a), if_pos rfl]
    rw [h, e]
  | d + 1 => by
    have h := ins_cnt (G := G) (a := a) (x := x) (c := c) d
    show cnt (ins G a x) (a + d + 1) c + (if ins G a x (a + d + 1) = c then 1 else 0) = cnt G (a + d) c + (if G (a + d) = c then 1 else 0) + _
    rw [h]
    have e : ins G a x (a + d + 1) = G (a + d) := by
      unfold ins
      rw [if_neg (by omega), if_neg (by omega), Nat.add_sub_cancel]
    rw [e]
    omega
theorem ins_ord {G : Nat → Nat} {n a x : Nat} (ha : a ≤ n) (h : ∀ i j, i ≤ j → j < n → G i ≤ G j) (h1 : ∀ i, a ≤ i → i < n → x ≤ G i) (h2 : 0 < a → G (a - 1) ≤ x) : ∀ i j, i ≤ j → j < n + 1 → ins G a x i ≤ ins G a x j := by
  intro i j hij hj
  have hlo : ∀ i, i < a → G i ≤ x := fun i hi => Nat.le_trans (h i (a - 1) (by omega) (by omega)) (h2 (by omega))
  unfold ins
  by_cases c1 : i < a <;> by_cases c2 : j < a
  · rw [if_pos c1, if_pos c2]; exact h i j hij (by omega)
  · rw [if_pos c1, if_neg c2]
    by_cases c3 : j = a
    · rw [if_pos c3]; exact hlo i c1
    · rw [if_neg c3]; exact h i (j - 1) (by omega) (by omega)
  · omega
  · rw [if_neg c1, if_neg c2]
    by_cases c3 : i = a <;> by_cases c4 : j = a
    · rw [if_pos c3, if_pos c4]; exact Nat.le_refl _
    · rw [if_pos c3, if_neg c4]; exact h1 (j - 1) (by omega) (by omega)
    · omega
    · rw [if_neg c3, if_neg c4]; exact h (i - 1) (j - 1) (by omega) (by omega)
theorem cal_wds (w : Nat) (S : Sg) : ∀ n, sm (fun i => cst w (S.2.1 i)) n = 10 * sm (fun i => if 0 < S.2.1 i then 1 else 0) n + w * (n - sm (fun i => if 0 < S.2.1 i then 1 else 0) n)
  | 0 => by simp [sm]
  | n + 1 => by
    have h := cal_wds w S n
    have hle := sm_le (f := fun i => if 0 < S.2.1 i then 1 else 0) (c := 1) (fun i => by split <;> omega) n
    rw [sm, sm, h]
    generalize sm (fun i => if 0 < S.2.1 i then 1 else 0) n = m at *
    unfold cst
    by_cases e : 0 < S.2.1 n
    · simp only [e, if_true]
      rw [show n + 1 - (m + 1) = n - m by omega]
      omega
    · simp only [e, if_false]
      rw [show n + 1 - (m + 0) = (n - m) + 1 by omega, Nat.mul_succ]
      omega
theorem cal_eq (w : Nat) (S : Sg) : 10 * wds S + w * (S.1 - wds S) = cal w S := (cal_wds w S S.1).symm
def sameS (S T : Sg) : Prop := S.1 = T.1 ∧ ∀ i, i < S.1 → (S.2.1 i = T.2.1 i ∧ S.2.2.1 i = T.2.2.1 i ∧ ∀ j, j < S.2.1 i → S.2.2.2 i j = T.2.2.2 i j)
theorem sameS_dec (S T : Sg) : Nonempty (Decidable (sameS S T)) := ⟨by unfold sameS; infer_instance⟩
/-- as a number -/
def sameI (S T : Sg) : Int32 := bz (S.1 = T.1 ∧ ∀ i, i < S.1 → (S.2.1 i = T.2.1 i ∧ S.2.2.1 i = T.2.2.1 i ∧ ∀ j, j < S.2.1 i → S.2.2.2 i j = T.2.2.2 i j))
set_option maxHeartbeats 4000000 in
set_option maxRecDepth 100000 in
theorem cX5_tags_ok (l : Launch) (g : Gz) (κ : Kz) (I : Iz) (R : Rz) (J : Jz) (A : Nat → Nat) (b : Nat) (hg : LGg κ R A b) (n m : Nat) (hmn : m ≤ n) (e2 : I (A b) 2 = nI n) (e3 : I (A b) 3 = nI m) : Ct l mX5_tags 0 0 g [.ref (A b)] κ I R J (Si κ R J (fun r I1 => r = nI (n - m) ∧ I1 = I)) := by
  refine ct_of (by decide) (Nat.le_of_ble_eq_true rfl) ?_
  intro z hz hr hrc hrs
  have hz : Am z cX5_tags RX5 1 0 := hz
  have hr : Rt z yX5_tags (some .int) 0 0 _ := hr
  show V z 1 0 0 0 [(0, .ref (A b))] [] κ I R J
  obtain ⟨hk, ho, ⟨hR0, hK1, hN1, ho1⟩, ⟨hR1, hK2, hN2, ho2⟩, hrow⟩ := id hg
  have hne : A b ≠ A (b + 2) := tag_ne ho ho2 (by omega)
  refine v_aload_n hz dX5_tags_0 rfl ?_
  refine v_getI hz fX5_38 (by assumption) dX5_tags_1 ?_
  refine v_top e2 ?_
  refine v_aload_n hz dX5_tags_4 rfl ?_
  refine v_getI hz fX5_41 (by assumption) dX5_tags_5 ?_
  refine v_top e3 ?_
  refine v_isubN hz (by omega) dX5_tags_8 ?_
  exact v_iret hz hr dX5_tags_9 ⟨rfl, rfl⟩
set_option maxHeartbeats 4000000 in
set_option maxRecDepth 100000 in
theorem cX5_cost_ok (l : Launch) (g : Gz) (κ : Kz) (I : Iz) (R : Rz) (J : Jz) (A : Nat → Nat) (b : Nat) (hg : LGg κ R A b) (w : Nat) (S : Sg) (e2 : I (A b) 2 = nI S.1) (e3 : I (A b) 3 = nI (wds S)) : Ct l mX5_cost 0 0 g [.ref (A b), .int (nI w)] κ I R J (Si κ R J (fun r I1 => r = nI (cal w S) ∧ I1 = I)) := by
  refine ct_of (by decide) (Nat.le_of_ble_eq_true rfl) ?_
  intro z hz hr hrc hrs
  have hz : Am z cX5_cost RX5 2 1 := hz
  have hr : Rt z yX5_cost (some .int) 0 0 _ := hr
  show V z 2 0 0 0 [(0, .ref (A b)), (1, .int (nI w))] [] κ I R J
  obtain ⟨hk, ho, ⟨hR0, hK1, hN1, ho1⟩, ⟨hR1, hK2, hN2, ho2⟩, hrow⟩ := id hg
  have hne : A b ≠ A (b + 2) := tag_ne ho ho2 (by omega)
  refine v_bi (v := nI 10) hz dX5_cost_0 (by decide) ?_
  refine v_aload_n hz dX5_cost_2 rfl ?_
  refine v_getI hz fX5_41 (by assumption) dX5_cost_3 ?_
  refine v_top e3 ?_
  first | with_reducible refine v_imulN hz dX5_cost_6 ?_ | refine v_imul hz dX5_cost_6 ?_
  refine v_iload_n hz dX5_cost_7 rfl ?_
  refine v_aload_n hz dX5_cost_8 rfl ?_
  refine v_callVi hz lX5_58 (cX5_tags_ok _ _ _ _ _ _ A b hg S.1 (wds S) (wds_le S) e2 e3) (by assumption) rfl rfl (Nat.le_of_ble_eq_true rfl) (by decide) ⟨Nat.zero_le _, Nat.zero_le _⟩ dX5_cost_9 (fun r I1 h9 => ?_)
  obtain ⟨rfl, rfl⟩ := h9
  first | with_reducible refine v_imulN hz dX5_cost_12 ?_ | refine v_imul hz dX5_cost_12 ?_
  first | with_reducible refine v_iaddN hz dX5_cost_13 ?_ | refine v_iadd hz dX5_cost_13 ?_
  exact v_iret hz hr dX5_cost_14 ⟨congrArg nI (cal_eq w S), rfl⟩
def segT (S : Sg) (t : Int32) (w v : Nat) : Int32 := if v = 0 then nI S.1 else if v = 1 then nI (wds S) else if v = 2 then nI (S.1 - wds S) else if v = 3 then nI (grn S) else if v = 4 then nI (cal w S) else t
set_option maxHeartbeats 4000000 in
set_option maxRecDepth 100000 in
theorem cX5_tell_ok (l : Launch) (g : Gz) (κ : Kz) (I : Iz) (R : Rz) (J : Jz) (A : Nat → Nat) (b : Nat) (hg : LGg κ R A b) (w v : Nat) (S : Sg) (t : Int32) (hv : v < 6) (e2 : I (A b) 2 = nI S.1) (e3 : I (A b) 3 = nI (wds S)) (e4 : I (A b) 4 = nI (grn S)) (e5 : I (A b) 5 = t) : Ct l mX5_tell 0 0 g [.ref (A b), .int (nI v), .int (nI w)] κ I R J (Si κ R J (fun r I1 => r = segT S t w v ∧ I1 = I)) := by
  refine ct_of (by decide) (Nat.le_of_ble_eq_true rfl) ?_
  intro z hz hr hrc hrs
  have hz : Am z cX5_tell RX5 3 2 := hz
  have hr : Rt z yX5_tell (some .int) 0 0 _ := hr
  show V z 3 0 0 0 [(0, .ref (A b)), (1, .int (nI v)), (2, .int (nI w))] [] κ I R J
  obtain ⟨hk, ho, ⟨hR0, hK1, hN1, ho1⟩, ⟨hR1, hK2, hN2, ho2⟩, hrow⟩ := id hg
  have hne : A b ≠ A (b + 2) := tag_ne ho ho2 (by omega)
  refine v_iload_n hz dX5_tell_0 rfl ?_
  refine v_tsw hz 0 5 [40, 45, 50, 55, 60, 66] 71 dX5_tell_1 ⟨rfl, rfl⟩ (by decide) (by decide) (by decide) (fun j1 hj1_1 hj2_1 c1 => ?_) (fun c1 => ?_)
  · rcases (show j1 = 0 ∨ j1 = 1 ∨ j1 = 2 ∨ j1 = 3 ∨ j1 = 4 ∨ j1 = 5 by omega) with rfl | rfl | rfl | rfl | rfl | rfl
    · refine v_pc (pc' := 40) rfl ?_
      have e0 := (nI_eq (by omega) (by decide)).mp c1
      refine v_aload_n hz dX5_tell_40 rfl ?_
      refine v_getI hz fX5_38 (by assumption) dX5_tell_41 ?_
      refine v_top e2 ?_
      exact v_iret hz hr dX5_tell_44 ⟨by subst e0; rfl, rfl⟩
    · refine v_pc (pc' := 45) rfl ?_
      have e0 := (nI_eq (by omega) (by decide)).mp c1
      refine v_aload_n hz dX5_tell_45 rfl ?_
      refine v_getI hz fX5_41 (by assumption) dX5_tell_46 ?_
      refine v_top e3 ?_
      exact v_iret hz hr dX5_tell_49 ⟨by subst e0; rfl, rfl⟩
    · refine v_pc (pc' := 50) rfl ?_
      have e0 := (nI_eq (by omega) (by decide)).mp c1
      refine v_aload_n hz dX5_tell_50 rfl ?_
      refine v_callVi hz lX5_58 (cX5_tags_ok _ _ _ _ _ _ A b hg S.1 (wds S) (wds_le S) e2 e3) (by assumption) rfl rfl (Nat.le_of_ble_eq_true rfl) (by decide) ⟨Nat.zero_le _, Nat.zero_le _⟩ dX5_tell_51 (fun r I1 h51 => ?_)
      obtain ⟨rfl, rfl⟩ := h51
      exact v_iret hz hr dX5_tell_54 ⟨by subst e0; rfl, rfl⟩
    · refine v_pc (pc' := 55) rfl ?_
      have e0 := (nI_eq (by omega) (by decide)).mp c1
      refine v_aload_n hz dX5_tell_55 rfl ?_
      refine v_getI hz fX5_44 (by assumption) dX5_tell_56 ?_
      refine v_top e4 ?_
      exact v_iret hz hr dX5_tell_59 ⟨by subst e0; rfl, rfl⟩
    · refine v_pc (pc' := 60) rfl ?_
      have e0 := (nI_eq (by omega) (by decide)).mp c1
      refine v_aload_n hz dX5_tell_60 rfl ?_
      refine v_iload_n hz dX5_tell_61 rfl ?_
      refine v_callVi hz lX5_66 (cX5_cost_ok _ _ _ _ _ _ A b hg w S e2 e3) (by assumption) rfl rfl (Nat.le_of_ble_eq_true rfl) (by decide) ⟨Nat.zero_le _, Nat.zero_le _⟩ dX5_tell_62 (fun r I1 h62 => ?_)
      obtain ⟨rfl, rfl⟩ := h62
      exact v_iret hz hr dX5_tell_65 ⟨by subst e0; rfl, rfl⟩
    · refine v_pc (pc' := 66) rfl ?_
      have e0 := (nI_eq (by omega) (by decide)).mp c1
      refine v_aload_n hz dX5_tell_66 rfl ?_
      refine v_getI hz fX5_47 (by assumption) dX5_tell_67 ?_
      refine v_top e5 ?_
      exact v_iret hz hr dX5_tell_70 ⟨by subst e0; rfl, rfl⟩
  · exact absurd ⟨v, by omega, by omega, rfl⟩ c1
set_option maxHeartbeats 4000000 in
set_option maxRecDepth 100000 in
theorem lp_X5_isSameAs {z : Zz} {κ : Kz} {I : Iz} {R : Rz} {J : Jz} {A : Nat → Nat} (hz : Am z cX5_isSameAs RX5 3 1) {b b2 : Nat} {S T : Sg} (hg : LGg κ R A b) (hg2 : LGg κ R A b2) (h1 : csg I A b S) (h2 : csg I A b2 T) (hST : S.1 = T.1) (hr : Rt z yX5_isSameAs (some .boolean) 0 0 (Si κ R J (fun r I1 => r = sameI S T ∧ I1 = I))) :
    ∀ n i : Nat, i ≤ S.1 → S.1 + 1 ≤ i + n → (∀ k, k < i → (S.2.1 k = T.2.1 k ∧ S.2.2.1 k = T.2.2.1 k ∧ ∀ j, j < S.2.1 k → S.2.2.2 k j = T.2.2.2 k j)) → V z 3 0 0 15 [(0, .ref (A b)), (1, .ref (A b2)), (2, .int (nI i))] [] κ I R J := by
  obtain ⟨hk, ho, ⟨hR0, hK1, hN1, ho1⟩, ⟨hR1, hK2, hN2, ho2⟩, hrow⟩ := id hg
  obtain ⟨hkb, hob, ⟨hR0b, hK1b, hN1b, ho1b⟩, ⟨hR1b, hK2b, hN2b, ho2b⟩, hrowb⟩ := id hg2
  obtain ⟨hS8, e2, e3, hsn⟩ := h1
  obtain ⟨hT8, f2, f3, htn⟩ := h2
  intro n
  induction n with
  | zero => intro i hi hn; exact absurd hn (by omega)
  | succ n ih =>
  intro i hi hn hsame
  refine v_iload_n hz dX5_isSameAs_15 rfl ?_
  refine v_aload_n hz dX5_isSameAs_16 rfl ?_
  refine v_getI hz fX5_38 (by assumption) dX5_isSameAs_17 ?_
  refine v_top e2 ?_
  first | with_reducible refine v_icmp_geN hz 49 (by omega) (by omega) dX5_isSameAs_20 (by decide) (fun c20 => ?_) (fun c20 => ?_) | refine v_icmp_ge hz 49 dX5_isSameAs_20 (by decide) (fun c20 => ?_) (fun c20 => ?_)
  · refine v_ic (v := nI 1) hz dX5_isSameAs_49 (by decide) ?_
    exact v_zret hz hr dX5_isSameAs_50 (by first | exact Or.inl rfl | exact Or.inr rfl | exact bz_01) ⟨(bz_t ⟨hST, fun k hk => hsame k (by omega)⟩).symm, rfl⟩
  · refine v_aload_n hz dX5_isSameAs_23 rfl ?_
    refine v_getR hz fX5_11 (by assumption) (by assumption) dX5_isSameAs_24 ?_
    refine v_iload_n hz dX5_isSameAs_27 rfl ?_
    refine v_aaldN hz (by omega) (by assumption) (by omega) (by decide) (hrow i (by omega)).1 dX5_isSameAs_28 ?_
    refine v_aload_n hz dX5_isSameAs_29 rfl ?_
    refine v_getR hz fX5_11 (by assumption) (by assumption) dX5_isSameAs_30 ?_
    refine v_iload_n hz dX5_isSameAs_33 rfl ?_
    refine v_aaldN hz (by omega) (by assumption) (by omega) (by decide) (hrowb i (by omega)).1 dX5_isSameAs_34 ?_
    have hka := (hrow i (by omega)).2.1
    refine v_callVi hz lX5_62 (cX6_isSameAs_ok _ _ _ _ _ _ A (b + 3 + 2 * i) (b2 + 3 + 2 * i) (hrow i (by omega)).2 (hrowb i (by omega)).2 _ _ _ _ _ _ (hsn i (by omega)) (htn i (by omega))) (by assumption) rfl rfl (Nat.le_of_ble_eq_true rfl) (by decide) ⟨Nat.zero_le _, Nat.zero_le _⟩ dX5_isSameAs_35 (fun r I1 h35 => ?_)
    obtain ⟨rfl, rfl⟩ := h35
    first | with_reducible refine v_if_neB hz 43 dX5_isSameAs_38 (by decide) (fun c38 => ?_) (fun c38 => ?_) | with_reducible refine v_if_neN hz 43 (by omega) dX5_isSameAs_38 (by decide) (fun c38 => ?_) (fun c38 => ?_) | refine v_if_ne hz 43 dX5_isSameAs_38 (by decide) (fun c38 => ?_) (fun c38 => ?_)
    · first | refine v_iincN hz 1 dX5_isSameAs_43 (by decide) rfl (by decide) rfl ?_ | refine v_iinc hz dX5_isSameAs_43 rfl (by decide) rfl ?_
      refine v_goto hz 15 dX5_isSameAs_46 (by decide) ?_
      exact v_sub (ih (i + 1) (by omega) (by omega) (fun k hk => by rcases Nat.lt_succ_iff_lt_or_eq.mp hk with e | e; exact hsame k e; rw [e]; exact c38)) ⟨rfl, rfl, rfl, trivial⟩
    · refine v_ic (v := nI 0) hz dX5_isSameAs_41 (by decide) ?_
      exact v_zret hz hr dX5_isSameAs_42 (by first | exact Or.inl rfl | exact Or.inr rfl | exact bz_01) ⟨(bz_f (fun q => c38 (q.2 i (by omega)))).symm, rfl⟩
set_option maxHeartbeats 4000000 in
set_option maxRecDepth 100000 in
theorem cX5_isSameAs_ok (l : Launch) (g : Gz) (κ : Kz) (I : Iz) (R : Rz) (J : Jz) (A : Nat → Nat) (b b2 : Nat) (hg : LGg κ R A b) (hg2 : LGg κ R A b2) (S T : Sg) (h1 : csg I A b S) (h2 : csg I A b2 T) : Ct l mX5_isSameAs 0 0 g [.ref (A b), .ref (A b2)] κ I R J (Si κ R J (fun r I1 => r = sameI S T ∧ I1 = I)) := by
  refine ct_of (by decide) (Nat.le_of_ble_eq_true rfl) ?_
  intro z hz hr hrc hrs
  have hz : Am z cX5_isSameAs RX5 3 1 := hz
  have hr : Rt z yX5_isSameAs (some .boolean) 0 0 _ := hr
  show V z 3 0 0 0 [(0, .ref (A b)), (1, .ref (A b2))] [] κ I R J
  have hk := hg.1
  have hk2 := hg2.1
  have b1 := h1.1
  have b2 := h2.1
  refine v_aload_n hz dX5_isSameAs_0 rfl ?_
  refine v_getI hz fX5_38 (by assumption) dX5_isSameAs_1 ?_
  refine v_top h1.2.1 ?_
  refine v_aload_n hz dX5_isSameAs_4 rfl ?_
  refine v_getI hz fX5_38 (by assumption) dX5_isSameAs_5 ?_
  refine v_top h2.2.1 ?_
  first | with_reducible refine v_icmp_eqN hz 13 (by omega) (by omega) dX5_isSameAs_8 (by decide) (fun c8 => ?_) (fun c8 => ?_) | refine v_icmp_eq hz 13 dX5_isSameAs_8 (by decide) (fun c8 => ?_) (fun c8 => ?_)
  · refine v_ic (v := nI 0) hz dX5_isSameAs_13 (by decide) ?_
    refine v_istore_n hz dX5_isSameAs_14 (by decide) rfl ?_
    exact v_sub (lp_X5_isSameAs hz hg hg2 h1 h2 c8 hr (S.1 + 1) 0 (by omega) (by omega) (fun k hk => absurd hk (by omega))) ⟨rfl, rfl, rfl, trivial⟩
  · refine v_ic (v := nI 0) hz dX5_isSameAs_11 (by decide) ?_
    exact v_zret hz hr dX5_isSameAs_12 (by first | exact Or.inl rfl | exact Or.inr rfl | exact bz_01) ⟨(bz_f (fun q => c8 q.1)).symm, rfl⟩
set_option maxHeartbeats 4000000 in
set_option maxRecDepth 100000 in
theorem cX5_isFirstOfItsKind_ok (l : Launch) (g : Gz) (κ : Kz) (I : Iz) (R : Rz) (J : Jz) (A : Nat → Nat) (b : Nat) (hg : LGg κ R A b) (n i : Nat) (G : Nat → Nat) (h1 : cgr I A b n G) (hi : i < n) : Ct l mX5_isFirstOfItsKind 0 0 g [.ref (A b), .int (nI i)] κ I R J (Si κ R J (fun r I1 => r = bz (i = 0 ∨ G i ≠ G (i - 1)) ∧ I1 = I)) := by
  refine ct_of (by decide) (Nat.le_of_ble_eq_true rfl) ?_
  intro z hz hr hrc hrs
  have hz : Am z cX5_isFirstOfItsKind RX5 2 0 := hz
  have hr : Rt z yX5_isFirstOfItsKind (some .boolean) 0 0 _ := hr
  show V z 2 0 0 0 [(0, .ref (A b)), (1, .int (nI i))] [] κ I R J
  obtain ⟨hk, ho, ⟨hR0, hK1, hN1, ho1⟩, ⟨hR1, hK2, hN2, ho2⟩, hrow⟩ := id hg
  have hne : A b ≠ A (b + 2) := tag_ne ho ho2 (by omega)
  obtain ⟨hn, e4, hG, hord⟩ := h1
  have x1 := (hG i (by omega)).2
  have x2 := (hG (i - 1) (by omega)).2
  refine v_iload_n hz dX5_isFirstOfItsKind_0 rfl ?_
  first | with_reducible refine v_if_eqB hz 21 dX5_isFirstOfItsKind_1 (by decide) (fun c1 => ?_) (fun c1 => ?_) | with_reducible refine v_if_eqN hz 21 (by omega) dX5_isFirstOfItsKind_1 (by decide) (fun c1 => ?_) (fun c1 => ?_) | refine v_if_eq hz 21 dX5_isFirstOfItsKind_1 (by decide) (fun c1 => ?_) (fun c1 => ?_)
  · refine v_ic (v := nI 1) hz dX5_isFirstOfItsKind_21 (by decide) ?_
    refine v_goto hz 26 dX5_isFirstOfItsKind_22 (by decide) ?_
    exact v_zret hz hr dX5_isFirstOfItsKind_26 (by first | exact Or.inl rfl | exact Or.inr rfl | exact bz_01) ⟨by first | exact (bz_t (by omega)).symm | exact (bz_f (by omega)).symm, rfl⟩
  · refine v_aload_n hz dX5_isFirstOfItsKind_4 rfl ?_
    refine v_getR hz fX5_18 (by assumption) (by assumption) dX5_isFirstOfItsKind_5 ?_
    refine v_iload_n hz dX5_isFirstOfItsKind_8 rfl ?_
    refine v_ialdN hz (by assumption) (by assumption) (by omega) (by decide) dX5_isFirstOfItsKind_9 ?_
    refine v_top (hG i (by omega)).1 ?_
    refine v_aload_n hz dX5_isFirstOfItsKind_10 rfl ?_
    refine v_getR hz fX5_18 (by assumption) (by assumption) dX5_isFirstOfItsKind_11 ?_
    refine v_iload_n hz dX5_isFirstOfItsKind_14 rfl ?_
    refine v_ic (v := nI 1) hz dX5_isFirstOfItsKind_15 (by decide) ?_
    refine v_isubN hz (by omega) dX5_isFirstOfItsKind_16 ?_
    refine v_ialdN hz (by assumption) (by assumption) (by omega) (by decide) dX5_isFirstOfItsKind_17 ?_
    refine v_top (hG (i - 1) (by omega)).1 ?_
    first | with_reducible refine v_icmp_eqN hz 25 (by omega) (by omega) dX5_isFirstOfItsKind_18 (by decide) (fun c18 => ?_) (fun c18 => ?_) | refine v_icmp_eq hz 25 dX5_isFirstOfItsKind_18 (by decide) (fun c18 => ?_) (fun c18 => ?_)
    · refine v_ic (v := nI 0) hz dX5_isFirstOfItsKind_25 (by decide) ?_
      exact v_zret hz hr dX5_isFirstOfItsKind_26 (by first | exact Or.inl rfl | exact Or.inr rfl | exact bz_01) ⟨by first | exact (bz_t (by omega)).symm | exact (bz_f (by omega)).symm, rfl⟩
    · refine v_ic (v := nI 1) hz dX5_isFirstOfItsKind_21 (by decide) ?_
      refine v_goto hz 26 dX5_isFirstOfItsKind_22 (by decide) ?_
      exact v_zret hz hr dX5_isFirstOfItsKind_26 (by first | exact Or.inl rfl | exact Or.inr rfl | exact bz_01) ⟨by first | exact (bz_t (by omega)).symm | exact (bz_f (by omega)).symm, rfl⟩
set_option maxHeartbeats 4000000 in
set_option maxRecDepth 100000 in
theorem lp_X5_insertGram {z : Zz} {κ : Kz} {I0 : Iz} {R : Rz} {J : Jz} {A : Nat → Nat} (hz : Am z cX5_insertGram RX5 3 0) {b n x : Nat} {G : Nat → Nat} (hg : LGg κ R A b) (h0 : cgr I0 A b n G) (hn : n < 56) (hx : x < 729) (hr : Rt z yX5_insertGram none 0 0 (Sv κ R J (fun I1 => ∃ G2, cgr I1 A b (n + 1) G2 ∧ (∀ c, cnt G2 (n + 1) c = cnt G n c + (if x = c then 1 else 0)) ∧ (∀ a, a ≠ A b → a ≠ A (b + 2) → I1 a = I0 a) ∧ ∀ f, f ≠ 4 → I1 (A b) f = I0 (A b) f))) :
    ∀ (a : Nat) (I : Iz), a ≤ n → (∀ c, c ≠ A (b + 2) → I c = I0 c) → (∀ i, i < a → I (A (b + 2)) i = nI (G i)) → (∀ i, a < i → i ≤ n → I (A (b + 2)) i = nI (G (i - 1))) → (∀ i, a ≤ i → i < n → x ≤ G i) → V z 3 0 0 18 [(0, .ref (A b)), (1, .int (nI x)), (2, .int (nI a))] [] κ I R J := by
  obtain ⟨hk, ho, ⟨hR0, hK1, hN1, ho1⟩, ⟨hR1, hK2, hN2, ho2⟩, hrow⟩ := id hg
  have hne : A b ≠ A (b + 2) := tag_ne ho ho2 (by omega)
  obtain ⟨hn56, e4, hG, hord⟩ := h0
  intro a
  induction a with
  | zero =>
    intro I ha hF hlo hhi hge
    refine v_iload_n hz dX5_insertGram_18 rfl ?_
    refine v_if_leN hz 54 (by omega) dX5_insertGram_19 (by decide) (fun c19 => ?_) (fun c19 => ?_)
    · refine v_aload_n hz dX5_insertGram_54 rfl ?_
      refine v_getR hz fX5_18 (by assumption) (by assumption) dX5_insertGram_55 ?_
      refine v_iload_n hz dX5_insertGram_58 rfl ?_
      refine v_iload_n hz dX5_insertGram_59 rfl ?_
      refine v_iastN hz (by assumption) (by assumption) (by omega) (by decide) dX5_insertGram_60 ?_
      refine v_aload_n hz dX5_insertGram_61 rfl ?_
      refine v_dup hz dX5_insertGram_62 rfl ?_
      refine v_getI hz fX5_44 (by assumption) dX5_insertGram_63 ?_
      refine v_top (y := nI n) (by rw [u2_ne hne, hF _ hne]; exact e4) ?_
      refine v_ic (v := nI 1) hz dX5_insertGram_66 (by decide) ?_
      first | with_reducible refine v_iaddN hz dX5_insertGram_67 ?_ | refine v_iadd hz dX5_insertGram_67 ?_
      refine v_putI hz fX5_44 (by assumption) dX5_insertGram_68 ?_
      exact v_vret hz hr dX5_insertGram_71 ⟨ins G 0 x, ⟨by omega, u2_eq, fun i hi => ⟨by
              rw [u2_ne (Ne.symm hne)]
              unfold ins
              by_cases q1 : i < 0
              · rw [if_pos q1, u2_at (by omega)]; exact hlo i q1
              · rw [if_neg q1]
                by_cases q2 : i = 0
                · rw [if_pos q2, q2, u2_eq]
                · rw [if_neg q2, u2_at q2]; exact hhi i (by omega) (by omega), by
              unfold ins
              by_cases q1 : i < 0
              · rw [if_pos q1]; exact (hG i (by omega)).2
              · rw [if_neg q1]
                by_cases q2 : i = 0
                · rw [if_pos q2]; exact hx
                · rw [if_neg q2]; exact (hG (i - 1) (by omega)).2⟩, ins_ord (by omega) hord hge (fun h => absurd h (by omega))⟩, fun c => by
              have := ins_cnt (G := G) (a := 0) (x := x) (c := c) (n - 0)
              rw [show 0 + (n - 0) = n by omega] at this
              exact this, fun c h1 h2 => by rw [u2_ne h1, u2_ne h2]; exact hF c h2, fun f hf => by rw [u2_at hf, u2_ne hne, hF _ hne]⟩
    · exact absurd c19 (by omega)
  | succ a ih =>
  intro I ha hF hlo hhi hge
  have x1 := (hG a (by omega)).2
  refine v_iload_n hz dX5_insertGram_18 rfl ?_
  first | with_reducible refine v_if_leN hz 54 (by omega) dX5_insertGram_19 (by decide) (fun c19 => ?_) (fun c19 => ?_) | refine v_if_le hz 54 dX5_insertGram_19 (by decide) (fun c19 => ?_) (fun c19 => ?_)
  · exact absurd c19 (by omega)
  · refine v_aload_n hz dX5_insertGram_22 rfl ?_
    refine v_getR hz fX5_18 (by assumption) (by assumption) dX5_insertGram_23 ?_
    refine v_iload_n hz dX5_insertGram_26 rfl ?_
    refine v_ic (v := nI 1) hz dX5_insertGram_27 (by decide) ?_
    refine v_isubN hz (by omega) dX5_insertGram_28 ?_
    refine v_ialdN hz (by assumption) (by assumption) (by omega) (by decide) dX5_insertGram_29 ?_
    refine v_top (y := nI (G a)) (hlo a (by omega)) ?_
    refine v_iload_n hz dX5_insertGram_30 rfl ?_
    first | with_reducible refine v_icmp_leN hz 54 (by omega) (by omega) dX5_insertGram_31 (by decide) (fun c31 => ?_) (fun c31 => ?_) | refine v_icmp_le hz 54 dX5_insertGram_31 (by decide) (fun c31 => ?_) (fun c31 => ?_)
    · refine v_aload_n hz dX5_insertGram_54 rfl ?_
      refine v_getR hz fX5_18 (by assumption) (by assumption) dX5_insertGram_55 ?_
      refine v_iload_n hz dX5_insertGram_58 rfl ?_
      refine v_iload_n hz dX5_insertGram_59 rfl ?_
      refine v_iastN hz (by assumption) (by assumption) (by omega) (by decide) dX5_insertGram_60 ?_
      refine v_aload_n hz dX5_insertGram_61 rfl ?_
      refine v_dup hz dX5_insertGram_62 rfl ?_
      refine v_getI hz fX5_44 (by assumption) dX5_insertGram_63 ?_
      refine v_top (y := nI n) (by rw [u2_ne hne, hF _ hne]; exact e4) ?_
      refine v_ic (v := nI 1) hz dX5_insertGram_66 (by decide) ?_
      first | with_reducible refine v_iaddN hz dX5_insertGram_67 ?_ | refine v_iadd hz dX5_insertGram_67 ?_
      refine v_putI hz fX5_44 (by assumption) dX5_insertGram_68 ?_
      exact v_vret hz hr dX5_insertGram_71 ⟨ins G (a + 1) x, ⟨by omega, u2_eq, fun i hi => ⟨by
              rw [u2_ne (Ne.symm hne)]
              unfold ins
              by_cases q1 : i < (a + 1)
              · rw [if_pos q1, u2_at (by omega)]; exact hlo i q1
              · rw [if_neg q1]
                by_cases q2 : i = (a + 1)
                · rw [if_pos q2, q2, u2_eq]
                · rw [if_neg q2, u2_at q2]; exact hhi i (by omega) (by omega), by
              unfold ins
              by_cases q1 : i < (a + 1)
              · rw [if_pos q1]; exact (hG i (by omega)).2
              · rw [if_neg q1]
                by_cases q2 : i = (a + 1)
                · rw [if_pos q2]; exact hx
                · rw [if_neg q2]; exact (hG (i - 1) (by omega)).2⟩, ins_ord (by omega) hord hge (fun _ => by show G a ≤ x; omega)⟩, fun c => by
              have := ins_cnt (G := G) (a := (a + 1)) (x := x) (c := c) (n - (a + 1))
              rw [show (a + 1) + (n - (a + 1)) = n by omega] at this
              exact this, fun c h1 h2 => by rw [u2_ne h1, u2_ne h2]; exact hF c h2, fun f hf => by rw [u2_at hf, u2_ne hne, hF _ hne]⟩
    · refine v_aload_n hz dX5_insertGram_34 rfl ?_
      refine v_getR hz fX5_18 (by assumption) (by assumption) dX5_insertGram_35 ?_
      refine v_iload_n hz dX5_insertGram_38 rfl ?_
      refine v_aload_n hz dX5_insertGram_39 rfl ?_
      refine v_getR hz fX5_18 (by assumption) (by assumption) dX5_insertGram_40 ?_
      refine v_iload_n hz dX5_insertGram_43 rfl ?_
      refine v_ic (v := nI 1) hz dX5_insertGram_44 (by decide) ?_
      refine v_isubN hz (by omega) dX5_insertGram_45 ?_
      refine v_ialdN hz (by assumption) (by assumption) (by omega) (by decide) dX5_insertGram_46 ?_
      refine v_top (y := nI (G a)) (hlo a (by omega)) ?_
      refine v_iastN hz (by assumption) (by assumption) (by omega) (by decide) dX5_insertGram_47 ?_
      refine v_iincE hz dX5_insertGram_48 rfl (pk_m1 a) (by decide) rfl ?_
      refine v_goto hz 18 dX5_insertGram_51 (by decide) ?_
      exact v_sub (ih _ (by omega) (fun c hc => by rw [u2_ne hc]; exact hF c hc) (fun i hi => by rw [u2_at (by omega)]; exact hlo i (by omega)) (fun i h1 h2 => by
            by_cases e : i = a + 1
            · subst e; rw [u2_eq]; rfl
            · rw [u2_at e]; exact hhi i (by omega) h2) (fun i h1 h2 => by
            by_cases e : i = a
            · subst e; omega
            · exact hge i (by omega) h2)) ⟨rfl, rfl, rfl, trivial⟩
set_option maxHeartbeats 4000000 in
set_option maxRecDepth 100000 in
theorem cX5_insertGram_ok (l : Launch) (g : Gz) (κ : Kz) (I : Iz) (R : Rz) (J : Jz) (A : Nat → Nat) (b : Nat) (hg : LGg κ R A b) (n x : Nat) (G : Nat → Nat) (h0 : cgr I A b n G) (hn : n < 56) (hx : x < 729) : Ct l mX5_insertGram 0 0 g [.ref (A b), .int (nI x)] κ I R J (Sv κ R J (fun I1 => ∃ G2, cgr I1 A b (n + 1) G2 ∧ (∀ c, cnt G2 (n + 1) c = cnt G n c + (if x = c then 1 else 0)) ∧ (∀ a, a ≠ A b → a ≠ A (b + 2) → I1 a = I a) ∧ ∀ f, f ≠ 4 → I1 (A b) f = I (A b) f)) := by
  refine ct_of (by decide) (Nat.le_of_ble_eq_true rfl) ?_
  intro z hz hr hrc hrs
  have hz : Am z cX5_insertGram RX5 3 0 := hz
  have hr : Rt z yX5_insertGram none 0 0 _ := hr
  show V z 3 0 0 0 [(0, .ref (A b)), (1, .int (nI x))] [] κ I R J
  obtain ⟨hk, ho, ⟨hR0, hK1, hN1, ho1⟩, ⟨hR1, hK2, hN2, ho2⟩, hrow⟩ := id hg
  have hne : A b ≠ A (b + 2) := tag_ne ho ho2 (by omega)
  obtain ⟨hn56, e4, hG, hord⟩ := id h0
  refine v_aload_n hz dX5_insertGram_0 rfl ?_
  refine v_getI hz fX5_44 (by assumption) dX5_insertGram_1 ?_
  refine v_top e4 ?_
  refine v_aload_n hz dX5_insertGram_4 rfl ?_
  refine v_getR hz fX5_18 (by assumption) (by assumption) dX5_insertGram_5 ?_
  refine v_alenN hz (by omega) (by assumption) dX5_insertGram_8 ?_
  first | with_reducible refine v_icmp_ltN hz 13 (by omega) (by omega) dX5_insertGram_9 (by decide) (fun c9 => ?_) (fun c9 => ?_) | refine v_icmp_lt hz 13 dX5_insertGram_9 (by decide) (fun c9 => ?_) (fun c9 => ?_)
  · refine v_aload_n hz dX5_insertGram_13 rfl ?_
    refine v_getI hz fX5_44 (by assumption) dX5_insertGram_14 ?_
    refine v_top e4 ?_
    refine v_istore_n hz dX5_insertGram_17 (by decide) rfl ?_
    exact v_sub (lp_X5_insertGram hz hg h0 hn hx hr n I (Nat.le_refl n) (fun _ _ => rfl) (fun i hi => (hG i hi).1) (fun i h1 h2 => absurd h1 (by omega)) (fun i h1 h2 => absurd h1 (by omega))) ⟨rfl, rfl, rfl, trivial⟩
  · exact absurd (show n < 56 from hn) c9
