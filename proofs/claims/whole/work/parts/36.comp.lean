/-! ===== the class: a comparison, its cells at the tags b .. b + 4 ===== -/
def LCg (κ : Kz) (R : Rz) (A : Nat → Nat) (b : Nat) : Prop := κ.1 (A b) = 1 ∧ κ.2.2 (A b) = b ∧ (R (A b) 0 = some (A (b + 1)) ∧ κ.1 (A (b + 1)) = 9 ∧ κ.2.1 (A (b + 1)) = 16 ∧ κ.2.2 (A (b + 1)) = b + 1) ∧ (R (A b) 1 = some (A (b + 2)) ∧ κ.1 (A (b + 2)) = 9 ∧ κ.2.1 (A (b + 2)) = 16 ∧ κ.2.2 (A (b + 2)) = b + 2) ∧ (R (A b) 2 = some (A (b + 3)) ∧ κ.1 (A (b + 3)) = 9 ∧ κ.2.1 (A (b + 3)) = 16 ∧ κ.2.2 (A (b + 3)) = b + 3) ∧ (R (A b) 3 = some (A (b + 4)) ∧ κ.1 (A (b + 4)) = 9 ∧ κ.2.1 (A (b + 4)) = 16 ∧ κ.2.2 (A (b + 4)) = b + 4)
/-- five places written, the object's last -/
def u5 (I : Iz) (A : Nat → Nat) (b k : Nat) (x0 x1 x2 x3 : Int32) : Iz := u2 (u2 (u2 (u2 (u2 I (A (b + 1)) k x0) (A (b + 2)) k x1) (A (b + 3)) k x2) (A (b + 4)) k x3) (A b) 7 (nI (k + 1))
/-- how far apart two numbers are -/
def adf (a b : Nat) : Nat := (a - b) + (b - a)
theorem sub_ge {a b : Nat} (ha : a < 1073741824) (hb : b < 1073741824) : 0 ≤ nI a - nI b ↔ b ≤ a := by
  have h := pk_sub_toInt (a := a) (b := b) ha hb
  rw [i32_le, h, show (0 : Int32).toInt = 0 from rfl]
  omega
theorem sub_rev {a b : Nat} : 0 - (nI a - nI b) = nI b - nI a := by
  apply Int32.toBitVec_inj.mp
  simp only [Int32.toBitVec_sub]
  rw [show (0 : Int32).toBitVec = 0#32 from rfl]
  generalize (nI a).toBitVec = x
  generalize (nI b).toBitVec = y
  bv_omega
theorem abs_N {a b : Nat} (ha : a < 1073741824) (hb : b < 1073741824) : (if 0 ≤ nI a - nI b then nI a - nI b else 0 - (nI a - nI b)) = nI (adf a b) := by
  unfold adf
  by_cases h : b ≤ a
  · rw [if_pos ((sub_ge ha hb).mpr h), pk_sub h, show a - b + (b - a) = a - b by omega]
  · rw [if_neg (fun q => h ((sub_ge ha hb).mp q)), sub_rev, pk_sub (by omega), show a - b + (b - a) = b - a by omega]
theorem max_N {a b : Nat} (ha : a < 2147483648) (hb : b < 2147483648) : (if nI a < nI b then nI b else nI a) = nI (max a b) := by
  by_cases h : a < b
  · rw [if_pos ((nI_ltI ha hb).mpr h), Nat.max_eq_right (by omega)]
  · rw [if_neg (fun q => h ((nI_ltI ha hb).mp q)), Nat.max_eq_left (by omega)]
def rka (s1 t1 s2 t2 : Nat) : Prop := (s1 ≠ s2 ∧ s2 < s1) ∨ (s1 = s2 ∧ t1 < t2)
def rkI (s1 t1 s2 t2 : Nat) : Int32 := bz ((s1 ≠ s2 ∧ s2 < s1) ∨ (s1 = s2 ∧ t1 < t2))
def cbL (w w1 w2 t1 t2 rm : Nat) : Int32 := bz (10 * adf w1 w2 + w * adf t1 t2 ≤ rm)
def cbG (n1 n2 sh rm : Nat) : Int32 := bz (nI 5 * (nI (max n1 n2) - nI sh) ≤ nI (12 * rm))
def rmO (bd al : Nat) : Nat := (1000 - bd) * al / 1000
set_option maxHeartbeats 4000000 in
set_option maxRecDepth 100000 in
theorem cX1_clearSteps_ok (l : Launch) (g : Gz) (κ : Kz) (I : Iz) (R : Rz) (J : Jz) (A : Nat → Nat) (b : Nat) (hg : LCg κ R A b)  : Ct l mX1_clearSteps 0 0 g [.ref (A b)] κ I R J (Sv κ R J (fun I1 => I1 = u2 (u2 I (A b) 7 (nI 0)) (A b) 8 (nI 0))) := by
  refine ct_of (by decide) (Nat.le_of_ble_eq_true rfl) ?_
  intro z hz hr hrc hrs
  have hz : Am z cX1_clearSteps RX1 1 0 := hz
  have hr : Rt z yX1_clearSteps none 0 0 _ := hr
  show V z 1 0 0 0 [(0, .ref (A b))] [] κ I R J
  obtain ⟨hk, ho, ⟨hR0, hK1, hN1, ho1⟩, ⟨hR1, hK2, hN2, ho2⟩, ⟨hR2, hK3, hN3, ho3⟩, ⟨hR3, hK4, hN4, ho4⟩⟩ := id hg
  have d1 : A b ≠ A (b + 1) := tag_ne ho ho1 (by omega)
  have d2 : A b ≠ A (b + 2) := tag_ne ho ho2 (by omega)
  have d3 : A b ≠ A (b + 3) := tag_ne ho ho3 (by omega)
  have d4 : A b ≠ A (b + 4) := tag_ne ho ho4 (by omega)
  refine v_aload_n hz dX1_clearSteps_0 rfl ?_
  refine v_ic (v := nI 0) hz dX1_clearSteps_1 (by decide) ?_
  refine v_putI hz fX1_24 (by assumption) dX1_clearSteps_2 ?_
  refine v_aload_n hz dX1_clearSteps_5 rfl ?_
  refine v_ic (v := nI 0) hz dX1_clearSteps_6 (by decide) ?_
  refine v_putI hz fX1_28 (by assumption) dX1_clearSteps_7 ?_
  exact v_vret hz hr dX1_clearSteps_10 rfl
set_option maxHeartbeats 4000000 in
set_option maxRecDepth 100000 in
theorem cX1_addStep_ok (l : Launch) (g : Gz) (κ : Kz) (I : Iz) (R : Rz) (J : Jz) (A : Nat → Nat) (b : Nat) (hg : LCg κ R A b) (k t c : Nat) (x0 x2 x3 : Int32) (q : Prop) [Decidable q] (hk16 : k < 16) (hc : c < 2147483648) (e7 : I (A b) 7 = nI k) (e8 : I (A b) 8 = nI t) : Ct l mX1_addStep 0 0 g [.ref (A b), .int x0, .int (nI c), .int x2, .int x3, .int (bz q)] κ I R J (Sv κ R J (fun I1 => I1 = if q ∧ 0 < c then u2 (u5 I A b k x0 (nI c) x2 x3) (A b) 8 (nI (t + 1)) else u5 I A b k x0 (nI c) x2 x3)) := by
  refine ct_of (by decide) (Nat.le_of_ble_eq_true rfl) ?_
  intro z hz hr hrc hrs
  have hz : Am z cX1_addStep RX1 6 0 := hz
  have hr : Rt z yX1_addStep none 0 0 _ := hr
  show V z 6 0 0 0 [(0, .ref (A b)), (1, .int x0), (2, .int (nI c)), (3, .int x2), (4, .int x3), (5, .int (bz q))] [] κ I R J
  obtain ⟨hk, ho, ⟨hR0, hK1, hN1, ho1⟩, ⟨hR1, hK2, hN2, ho2⟩, ⟨hR2, hK3, hN3, ho3⟩, ⟨hR3, hK4, hN4, ho4⟩⟩ := id hg
  have d1 : A b ≠ A (b + 1) := tag_ne ho ho1 (by omega)
  have d2 : A b ≠ A (b + 2) := tag_ne ho ho2 (by omega)
  have d3 : A b ≠ A (b + 3) := tag_ne ho ho3 (by omega)
  have d4 : A b ≠ A (b + 4) := tag_ne ho ho4 (by omega)
  refine v_aload_n hz dX1_addStep_0 rfl ?_
  refine v_getI hz fX1_24 (by assumption) dX1_addStep_1 ?_
  refine v_top e7 ?_
  refine v_aload_n hz dX1_addStep_4 rfl ?_
  refine v_getR hz fX1_9 (by assumption) (by assumption) dX1_addStep_5 ?_
  refine v_alenN hz (by omega) (by assumption) dX1_addStep_8 ?_
  first | with_reducible refine v_icmp_ltN hz 13 (by omega) (by omega) dX1_addStep_9 (by decide) (fun c9 => ?_) (fun c9 => ?_) | refine v_icmp_lt hz 13 dX1_addStep_9 (by decide) (fun c9 => ?_) (fun c9 => ?_)
  · refine v_aload_n hz dX1_addStep_13 rfl ?_
    refine v_getR hz fX1_9 (by assumption) (by assumption) dX1_addStep_14 ?_
    refine v_aload_n hz dX1_addStep_17 rfl ?_
    refine v_getI hz fX1_24 (by assumption) dX1_addStep_18 ?_
    refine v_top e7 ?_
    refine v_iload_n hz dX1_addStep_21 rfl ?_
    refine v_iastN hz (by assumption) (by assumption) (by omega) (by decide) dX1_addStep_22 ?_
    refine v_aload_n hz dX1_addStep_23 rfl ?_
    refine v_getR hz fX1_15 (by assumption) (by assumption) dX1_addStep_24 ?_
    refine v_aload_n hz dX1_addStep_27 rfl ?_
    refine v_getI hz fX1_24 (by assumption) dX1_addStep_28 ?_
    refine v_top (y := nI k) (by rw [u2_ne d1]; exact e7) ?_
    refine v_iload_n hz dX1_addStep_31 rfl ?_
    refine v_iastN hz (by assumption) (by assumption) (by omega) (by decide) dX1_addStep_32 ?_
    refine v_aload_n hz dX1_addStep_33 rfl ?_
    refine v_getR hz fX1_18 (by assumption) (by assumption) dX1_addStep_34 ?_
    refine v_aload_n hz dX1_addStep_37 rfl ?_
    refine v_getI hz fX1_24 (by assumption) dX1_addStep_38 ?_
    refine v_top (y := nI k) (by rw [u2_ne d2, u2_ne d1]; exact e7) ?_
    refine v_iload_n hz dX1_addStep_41 rfl ?_
    refine v_iastN hz (by assumption) (by assumption) (by omega) (by decide) dX1_addStep_42 ?_
    refine v_aload_n hz dX1_addStep_43 rfl ?_
    refine v_getR hz fX1_21 (by assumption) (by assumption) dX1_addStep_44 ?_
    refine v_aload_n hz dX1_addStep_47 rfl ?_
    refine v_getI hz fX1_24 (by assumption) dX1_addStep_48 ?_
    refine v_top (y := nI k) (by rw [u2_ne d3, u2_ne d2, u2_ne d1]; exact e7) ?_
    refine v_iload hz dX1_addStep_51 rfl ?_
    refine v_iastN hz (by assumption) (by assumption) (by omega) (by decide) dX1_addStep_53 ?_
    refine v_aload_n hz dX1_addStep_54 rfl ?_
    refine v_dup hz dX1_addStep_55 rfl ?_
    refine v_getI hz fX1_24 (by assumption) dX1_addStep_56 ?_
    refine v_top (y := nI k) (by rw [u2_ne d4, u2_ne d3, u2_ne d2, u2_ne d1]; exact e7) ?_
    refine v_ic (v := nI 1) hz dX1_addStep_59 (by decide) ?_
    first | with_reducible refine v_iaddN hz dX1_addStep_60 ?_ | refine v_iadd hz dX1_addStep_60 ?_
    refine v_putI hz fX1_24 (by assumption) dX1_addStep_61 ?_
    refine v_iload hz dX1_addStep_64 rfl ?_
    first | with_reducible refine v_if_eqB hz 83 dX1_addStep_66 (by decide) (fun c66 => ?_) (fun c66 => ?_) | with_reducible refine v_if_eqN hz 83 (by omega) dX1_addStep_66 (by decide) (fun c66 => ?_) (fun c66 => ?_) | refine v_if_eq hz 83 dX1_addStep_66 (by decide) (fun c66 => ?_) (fun c66 => ?_)
    · exact v_vret hz hr dX1_addStep_83 (by first | exact (if_pos ⟨c66, by omega⟩).symm | exact (if_neg (fun h => c66 h.1)).symm | exact (if_neg (fun h => by omega)).symm)
    · refine v_iload_n hz dX1_addStep_69 rfl ?_
      first | with_reducible refine v_if_leN hz 83 (by omega) dX1_addStep_70 (by decide) (fun c70 => ?_) (fun c70 => ?_) | refine v_if_le hz 83 dX1_addStep_70 (by decide) (fun c70 => ?_) (fun c70 => ?_)
      · exact v_vret hz hr dX1_addStep_83 (by first | exact (if_pos ⟨c66, by omega⟩).symm | exact (if_neg (fun h => c66 h.1)).symm | exact (if_neg (fun h => by omega)).symm)
      · refine v_aload_n hz dX1_addStep_73 rfl ?_
        refine v_dup hz dX1_addStep_74 rfl ?_
        refine v_getI hz fX1_28 (by assumption) dX1_addStep_75 ?_
        refine v_top (y := nI t) (by rw [u2_at (by decide), u2_ne d4, u2_ne d3, u2_ne d2, u2_ne d1]; exact e8) ?_
        refine v_ic (v := nI 1) hz dX1_addStep_78 (by decide) ?_
        first | with_reducible refine v_iaddN hz dX1_addStep_79 ?_ | refine v_iadd hz dX1_addStep_79 ?_
        refine v_putI hz fX1_28 (by assumption) dX1_addStep_80 ?_
        exact v_vret hz hr dX1_addStep_83 (by first | exact (if_pos ⟨c66, by omega⟩).symm | exact (if_neg (fun h => c66 h.1)).symm | exact (if_neg (fun h => by omega)).symm)
  · exact absurd (show k < 16 from hk16) c9
set_option maxHeartbeats 4000000 in
set_option maxRecDepth 100000 in
theorem cX1_setScore_ok (l : Launch) (g : Gz) (κ : Kz) (I : Iz) (R : Rz) (J : Jz) (A : Nat → Nat) (b : Nat) (hg : LCg κ R A b) (f a : Nat) (ha : 0 < a) (ha2 : a ≤ 320) (hfa : f ≤ a) (e4 : I (A b) 4 = nI f) (e5 : I (A b) 5 = nI a) : Ct l mX1_setScore 0 0 g [.ref (A b)] κ I R J (Sv κ R J (fun I1 => I1 = u2 I (A b) 9 (nI (1000 - (1000 * f + a - 1) / a)))) := by
  refine ct_of (by decide) (Nat.le_of_ble_eq_true rfl) ?_
  intro z hz hr hrc hrs
  have hz : Am z cX1_setScore RX1 1 0 := hz
  have hr : Rt z yX1_setScore none 0 0 _ := hr
  show V z 1 0 0 0 [(0, .ref (A b))] [] κ I R J
  obtain ⟨hk, ho, ⟨hR0, hK1, hN1, ho1⟩, ⟨hR1, hK2, hN2, ho2⟩, ⟨hR2, hK3, hN3, ho3⟩, ⟨hR3, hK4, hN4, ho4⟩⟩ := id hg
  have d1 : A b ≠ A (b + 1) := tag_ne ho ho1 (by omega)
  have d2 : A b ≠ A (b + 2) := tag_ne ho ho2 (by omega)
  have d3 : A b ≠ A (b + 3) := tag_ne ho ho3 (by omega)
  have d4 : A b ≠ A (b + 4) := tag_ne ho ho4 (by omega)
  have hq := quo_le hfa ha
  refine v_aload_n hz dX1_setScore_0 rfl ?_
  refine v_aload_n hz dX1_setScore_1 rfl ?_
  refine v_getI hz fX1_31 (by assumption) dX1_setScore_2 ?_
  refine v_top e5 ?_
  first | with_reducible refine v_if_leN hz 35 (by omega) dX1_setScore_5 (by decide) (fun c5 => ?_) (fun c5 => ?_) | refine v_if_le hz 35 dX1_setScore_5 (by decide) (fun c5 => ?_) (fun c5 => ?_)
  · exact absurd c5 (by omega)
  · refine v_si (v := nI 1000) hz dX1_setScore_8 (by decide) ?_
    refine v_si (v := nI 1000) hz dX1_setScore_11 (by decide) ?_
    refine v_aload_n hz dX1_setScore_14 rfl ?_
    refine v_getI hz fX1_34 (by assumption) dX1_setScore_15 ?_
    refine v_top e4 ?_
    first | with_reducible refine v_imulN hz dX1_setScore_18 ?_ | refine v_imul hz dX1_setScore_18 ?_
    refine v_aload_n hz dX1_setScore_19 rfl ?_
    refine v_getI hz fX1_31 (by assumption) dX1_setScore_20 ?_
    refine v_top e5 ?_
    first | with_reducible refine v_iaddN hz dX1_setScore_23 ?_ | refine v_iadd hz dX1_setScore_23 ?_
    refine v_ic (v := nI 1) hz dX1_setScore_24 (by decide) ?_
    refine v_isubN hz (by omega) dX1_setScore_25 ?_
    refine v_aload_n hz dX1_setScore_26 rfl ?_
    refine v_getI hz fX1_31 (by assumption) dX1_setScore_27 ?_
    refine v_top e5 ?_
    refine v_idivN hz (by omega) (by omega) (by omega) dX1_setScore_30 ?_
    refine v_isubN hz (by omega) dX1_setScore_31 ?_
    refine v_goto hz 38 dX1_setScore_32 (by decide) ?_
    refine v_putI hz fX1_37 (by assumption) dX1_setScore_38 ?_
    exact v_vret hz hr dX1_setScore_41 rfl
set_option maxHeartbeats 4000000 in
set_option maxRecDepth 100000 in
theorem cX1_ranksAheadOf_ok (l : Launch) (g : Gz) (κ : Kz) (I : Iz) (R : Rz) (J : Jz) (A : Nat → Nat) (b : Nat) (hg : LCg κ R A b) (b2 s1 t1 s2 t2 : Nat) (hg2 : LCg κ R A b2) (h1 : s1 ≤ 1000) (h2 : s2 ≤ 1000) (h3 : t1 ≤ 16) (h4 : t2 ≤ 16) (e9 : I (A b) 9 = nI s1) (e8 : I (A b) 8 = nI t1) (f9 : I (A b2) 9 = nI s2) (f8 : I (A b2) 8 = nI t2) : Ct l mX1_ranksAheadOf 0 0 g [.ref (A b), .ref (A b2)] κ I R J (Si κ R J (fun r I1 => r = rkI s1 t1 s2 t2 ∧ I1 = I)) := by
  refine ct_of (by decide) (Nat.le_of_ble_eq_true rfl) ?_
  intro z hz hr hrc hrs
  have hz : Am z cX1_ranksAheadOf RX1 2 0 := hz
  have hr : Rt z yX1_ranksAheadOf (some .boolean) 0 0 _ := hr
  show V z 2 0 0 0 [(0, .ref (A b)), (1, .ref (A b2))] [] κ I R J
  obtain ⟨hk, ho, ⟨hR0, hK1, hN1, ho1⟩, ⟨hR1, hK2, hN2, ho2⟩, ⟨hR2, hK3, hN3, ho3⟩, ⟨hR3, hK4, hN4, ho4⟩⟩ := id hg
  have d1 : A b ≠ A (b + 1) := tag_ne ho ho1 (by omega)
  have d2 : A b ≠ A (b + 2) := tag_ne ho ho2 (by omega)
  have d3 : A b ≠ A (b + 3) := tag_ne ho ho3 (by omega)
  have d4 : A b ≠ A (b + 4) := tag_ne ho ho4 (by omega)
  have hk2 := hg2.1
  refine v_aload_n hz dX1_ranksAheadOf_0 rfl ?_
  refine v_getI hz fX1_37 (by assumption) dX1_ranksAheadOf_1 ?_
  refine v_top e9 ?_
  refine v_aload_n hz dX1_ranksAheadOf_4 rfl ?_
  refine v_getI hz fX1_37 (by assumption) dX1_ranksAheadOf_5 ?_
  refine v_top f9 ?_
  first | with_reducible refine v_icmp_eqN hz 28 (by omega) (by omega) dX1_ranksAheadOf_8 (by decide) (fun c8 => ?_) (fun c8 => ?_) | refine v_icmp_eq hz 28 dX1_ranksAheadOf_8 (by decide) (fun c8 => ?_) (fun c8 => ?_)
  · refine v_aload_n hz dX1_ranksAheadOf_28 rfl ?_
    refine v_getI hz fX1_28 (by assumption) dX1_ranksAheadOf_29 ?_
    refine v_top e8 ?_
    refine v_aload_n hz dX1_ranksAheadOf_32 rfl ?_
    refine v_getI hz fX1_28 (by assumption) dX1_ranksAheadOf_33 ?_
    refine v_top f8 ?_
    first | with_reducible refine v_icmp_geN hz 43 (by omega) (by omega) dX1_ranksAheadOf_36 (by decide) (fun c36 => ?_) (fun c36 => ?_) | refine v_icmp_ge hz 43 dX1_ranksAheadOf_36 (by decide) (fun c36 => ?_) (fun c36 => ?_)
    · refine v_ic (v := nI 0) hz dX1_ranksAheadOf_43 (by decide) ?_
      exact v_zret hz hr dX1_ranksAheadOf_44 (by first | exact Or.inl rfl | exact Or.inr rfl | exact bz_01) ⟨by unfold rkI; first | exact (bz_t (by omega)).symm | exact (bz_f (by omega)).symm, rfl⟩
    · refine v_ic (v := nI 1) hz dX1_ranksAheadOf_39 (by decide) ?_
      refine v_goto hz 44 dX1_ranksAheadOf_40 (by decide) ?_
      exact v_zret hz hr dX1_ranksAheadOf_44 (by first | exact Or.inl rfl | exact Or.inr rfl | exact bz_01) ⟨by unfold rkI; first | exact (bz_t (by omega)).symm | exact (bz_f (by omega)).symm, rfl⟩
  · refine v_aload_n hz dX1_ranksAheadOf_11 rfl ?_
    refine v_getI hz fX1_37 (by assumption) dX1_ranksAheadOf_12 ?_
    refine v_top e9 ?_
    refine v_aload_n hz dX1_ranksAheadOf_15 rfl ?_
    refine v_getI hz fX1_37 (by assumption) dX1_ranksAheadOf_16 ?_
    refine v_top f9 ?_
    first | with_reducible refine v_icmp_leN hz 26 (by omega) (by omega) dX1_ranksAheadOf_19 (by decide) (fun c19 => ?_) (fun c19 => ?_) | refine v_icmp_le hz 26 dX1_ranksAheadOf_19 (by decide) (fun c19 => ?_) (fun c19 => ?_)
    · refine v_ic (v := nI 0) hz dX1_ranksAheadOf_26 (by decide) ?_
      exact v_zret hz hr dX1_ranksAheadOf_27 (by first | exact Or.inl rfl | exact Or.inr rfl | exact bz_01) ⟨by unfold rkI; first | exact (bz_t (by omega)).symm | exact (bz_f (by omega)).symm, rfl⟩
    · refine v_ic (v := nI 1) hz dX1_ranksAheadOf_22 (by decide) ?_
      refine v_goto hz 27 dX1_ranksAheadOf_23 (by decide) ?_
      exact v_zret hz hr dX1_ranksAheadOf_27 (by first | exact Or.inl rfl | exact Or.inr rfl | exact bz_01) ⟨by unfold rkI; first | exact (bz_t (by omega)).symm | exact (bz_f (by omega)).symm, rfl⟩
/-- the field that tell(v) tells -/
def cmf (v : Nat) : Nat := ([4, 5, 9, 6, 7, 10, 11, 12, 13, 8] : List Nat).getD v 0
set_option maxHeartbeats 4000000 in
set_option maxRecDepth 100000 in
theorem cX1_tell_ok (l : Launch) (g : Gz) (κ : Kz) (I : Iz) (R : Rz) (J : Jz) (A : Nat → Nat) (b : Nat) (hg : LCg κ R A b) (v : Nat) (hv : v < 10) (e11 : I (A b) 11 = 0 ∨ I (A b) 11 = 1) (e12 : I (A b) 12 = 0 ∨ I (A b) 12 = 1) (e13 : I (A b) 13 = 0 ∨ I (A b) 13 = 1) : Ct l mX1_tell 0 0 g [.ref (A b), .int (nI v)] κ I R J (Si κ R J (fun r I1 => r = I (A b) (cmf v) ∧ I1 = I)) := by
  refine ct_of (by decide) (Nat.le_of_ble_eq_true rfl) ?_
  intro z hz hr hrc hrs
  have hz : Am z cX1_tell RX1 2 0 := hz
  have hr : Rt z yX1_tell (some .int) 0 0 _ := hr
  show V z 2 0 0 0 [(0, .ref (A b)), (1, .int (nI v))] [] κ I R J
  obtain ⟨hk, ho, ⟨hR0, hK1, hN1, ho1⟩, ⟨hR1, hK2, hN2, ho2⟩, ⟨hR2, hK3, hN3, ho3⟩, ⟨hR3, hK4, hN4, ho4⟩⟩ := id hg
  have d1 : A b ≠ A (b + 1) := tag_ne ho ho1 (by omega)
  have d2 : A b ≠ A (b + 2) := tag_ne ho ho2 (by omega)
  have d3 : A b ≠ A (b + 3) := tag_ne ho ho3 (by omega)
  have d4 : A b ≠ A (b + 4) := tag_ne ho ho4 (by omega)
  refine v_iload_n hz dX1_tell_0 rfl ?_
  refine v_tsw hz 0 9 [56, 61, 66, 71, 76, 81, 86, 99, 112, 125] 130 dX1_tell_1 ⟨rfl, rfl⟩ (by decide) (by decide) (by decide) (fun j1 hj1_1 hj2_1 c1 => ?_) (fun c1 => ?_)
  · rcases (show j1 = 0 ∨ j1 = 1 ∨ j1 = 2 ∨ j1 = 3 ∨ j1 = 4 ∨ j1 = 5 ∨ j1 = 6 ∨ j1 = 7 ∨ j1 = 8 ∨ j1 = 9 by omega) with rfl | rfl | rfl | rfl | rfl | rfl | rfl | rfl | rfl | rfl
    · refine v_pc (pc' := 56) rfl ?_
      have e0 := (nI_eq (by omega) (by decide)).mp c1
      refine v_aload_n hz dX1_tell_56 rfl ?_
      refine v_getI hz fX1_34 (by assumption) dX1_tell_57 ?_
      exact v_iret hz hr dX1_tell_60 ⟨by subst e0; rfl, rfl⟩
    · refine v_pc (pc' := 61) rfl ?_
      have e0 := (nI_eq (by omega) (by decide)).mp c1
      refine v_aload_n hz dX1_tell_61 rfl ?_
      refine v_getI hz fX1_31 (by assumption) dX1_tell_62 ?_
      exact v_iret hz hr dX1_tell_65 ⟨by subst e0; rfl, rfl⟩
    · refine v_pc (pc' := 66) rfl ?_
      have e0 := (nI_eq (by omega) (by decide)).mp c1
      refine v_aload_n hz dX1_tell_66 rfl ?_
      refine v_getI hz fX1_37 (by assumption) dX1_tell_67 ?_
      exact v_iret hz hr dX1_tell_70 ⟨by subst e0; rfl, rfl⟩
    · refine v_pc (pc' := 71) rfl ?_
      have e0 := (nI_eq (by omega) (by decide)).mp c1
      refine v_aload_n hz dX1_tell_71 rfl ?_
      refine v_getI hz fX1_69 (by assumption) dX1_tell_72 ?_
      exact v_iret hz hr dX1_tell_75 ⟨by subst e0; rfl, rfl⟩
    · refine v_pc (pc' := 76) rfl ?_
      have e0 := (nI_eq (by omega) (by decide)).mp c1
      refine v_aload_n hz dX1_tell_76 rfl ?_
      refine v_getI hz fX1_24 (by assumption) dX1_tell_77 ?_
      exact v_iret hz hr dX1_tell_80 ⟨by subst e0; rfl, rfl⟩
    · refine v_pc (pc' := 81) rfl ?_
      have e0 := (nI_eq (by omega) (by decide)).mp c1
      refine v_aload_n hz dX1_tell_81 rfl ?_
      refine v_getI hz fX1_40 (by assumption) dX1_tell_82 ?_
      exact v_iret hz hr dX1_tell_85 ⟨by subst e0; rfl, rfl⟩
    · refine v_pc (pc' := 86) rfl ?_
      have e0 := (nI_eq (by omega) (by decide)).mp c1
      refine v_aload_n hz dX1_tell_86 rfl ?_
      refine v_getI hz fX1_58 (by assumption) dX1_tell_87 ?_
      first | with_reducible refine v_if_eqB hz 97 dX1_tell_90 (by decide) (fun c90 => ?_) (fun c90 => ?_) | with_reducible refine v_if_eqN hz 97 (by omega) dX1_tell_90 (by decide) (fun c90 => ?_) (fun c90 => ?_) | refine v_if_eq hz 97 dX1_tell_90 (by decide) (fun c90 => ?_) (fun c90 => ?_)
      · refine v_ic (v := nI 0) hz dX1_tell_97 (by decide) ?_
        exact v_iret hz hr dX1_tell_98 (by subst e0; first | exact ⟨c90.symm, rfl⟩ | exact ⟨(e11.resolve_left c90).symm, rfl⟩)
      · refine v_ic (v := nI 1) hz dX1_tell_93 (by decide) ?_
        refine v_goto hz 98 dX1_tell_94 (by decide) ?_
        exact v_iret hz hr dX1_tell_98 (by subst e0; first | exact ⟨c90.symm, rfl⟩ | exact ⟨(e11.resolve_left c90).symm, rfl⟩)
    · refine v_pc (pc' := 99) rfl ?_
      have e0 := (nI_eq (by omega) (by decide)).mp c1
      refine v_aload_n hz dX1_tell_99 rfl ?_
      refine v_getI hz fX1_72 (by assumption) dX1_tell_100 ?_
      first | with_reducible refine v_if_eqB hz 110 dX1_tell_103 (by decide) (fun c103 => ?_) (fun c103 => ?_) | with_reducible refine v_if_eqN hz 110 (by omega) dX1_tell_103 (by decide) (fun c103 => ?_) (fun c103 => ?_) | refine v_if_eq hz 110 dX1_tell_103 (by decide) (fun c103 => ?_) (fun c103 => ?_)
      · refine v_ic (v := nI 0) hz dX1_tell_110 (by decide) ?_
        exact v_iret hz hr dX1_tell_111 (by subst e0; first | exact ⟨c103.symm, rfl⟩ | exact ⟨(e12.resolve_left c103).symm, rfl⟩)
      · refine v_ic (v := nI 1) hz dX1_tell_106 (by decide) ?_
        refine v_goto hz 111 dX1_tell_107 (by decide) ?_
        exact v_iret hz hr dX1_tell_111 (by subst e0; first | exact ⟨c103.symm, rfl⟩ | exact ⟨(e12.resolve_left c103).symm, rfl⟩)
    · refine v_pc (pc' := 112) rfl ?_
      have e0 := (nI_eq (by omega) (by decide)).mp c1
      refine v_aload_n hz dX1_tell_112 rfl ?_
      refine v_getI hz fX1_75 (by assumption) dX1_tell_113 ?_
      first | with_reducible refine v_if_eqB hz 123 dX1_tell_116 (by decide) (fun c116 => ?_) (fun c116 => ?_) | with_reducible refine v_if_eqN hz 123 (by omega) dX1_tell_116 (by decide) (fun c116 => ?_) (fun c116 => ?_) | refine v_if_eq hz 123 dX1_tell_116 (by decide) (fun c116 => ?_) (fun c116 => ?_)
      · refine v_ic (v := nI 0) hz dX1_tell_123 (by decide) ?_
        exact v_iret hz hr dX1_tell_124 (by subst e0; first | exact ⟨c116.symm, rfl⟩ | exact ⟨(e13.resolve_left c116).symm, rfl⟩)
      · refine v_ic (v := nI 1) hz dX1_tell_119 (by decide) ?_
        refine v_goto hz 124 dX1_tell_120 (by decide) ?_
        exact v_iret hz hr dX1_tell_124 (by subst e0; first | exact ⟨c116.symm, rfl⟩ | exact ⟨(e13.resolve_left c116).symm, rfl⟩)
    · refine v_pc (pc' := 125) rfl ?_
      have e0 := (nI_eq (by omega) (by decide)).mp c1
      refine v_aload_n hz dX1_tell_125 rfl ?_
      refine v_getI hz fX1_28 (by assumption) dX1_tell_126 ?_
      exact v_iret hz hr dX1_tell_129 ⟨by subst e0; rfl, rfl⟩
  · exact absurd ⟨v, by omega, by omega, rfl⟩ c1
set_option maxHeartbeats 4000000 in
set_option maxRecDepth 100000 in
theorem cX1_tellStep_ok (l : Launch) (g : Gz) (κ : Kz) (I : Iz) (R : Rz) (J : Jz) (A : Nat → Nat) (b : Nat) (hg : LCg κ R A b) (k n v : Nat) (hv : v < 4) (hkn : k < n) (hn : n ≤ 16) (e7 : I (A b) 7 = nI n) : Ct l mX1_tellStep 0 0 g [.ref (A b), .int (nI k), .int (nI v)] κ I R J (Si κ R J (fun r I1 => r = I (A (b + 1 + v)) k ∧ I1 = I)) := by
  refine ct_of (by decide) (Nat.le_of_ble_eq_true rfl) ?_
  intro z hz hr hrc hrs
  have hz : Am z cX1_tellStep RX1 3 1 := hz
  have hr : Rt z yX1_tellStep (some .int) 0 0 _ := hr
  show V z 3 0 0 0 [(0, .ref (A b)), (1, .int (nI k)), (2, .int (nI v))] [] κ I R J
  obtain ⟨hk, ho, ⟨hR0, hK1, hN1, ho1⟩, ⟨hR1, hK2, hN2, ho2⟩, ⟨hR2, hK3, hN3, ho3⟩, ⟨hR3, hK4, hN4, ho4⟩⟩ := id hg
  have d1 : A b ≠ A (b + 1) := tag_ne ho ho1 (by omega)
  have d2 : A b ≠ A (b + 2) := tag_ne ho ho2 (by omega)
  have d3 : A b ≠ A (b + 3) := tag_ne ho ho3 (by omega)
  have d4 : A b ≠ A (b + 4) := tag_ne ho ho4 (by omega)
  refine v_iload_n hz dX1_tellStep_0 rfl ?_
  refine v_aload_n hz dX1_tellStep_1 rfl ?_
  refine v_getI hz fX1_24 (by assumption) dX1_tellStep_2 ?_
  refine v_top e7 ?_
  refine v_callSi hz lX1_78 (cX7_isWithin_ok _ _ _ _ _ _ _ _) rfl rfl (Nat.le_of_ble_eq_true rfl) (by decide) ⟨Nat.zero_le _, Nat.zero_le _⟩ dX1_tellStep_5 (fun r I1 h5 => ?_)
  obtain ⟨rfl, rfl⟩ := h5
  refine v_top (within_N (by omega) (by omega)) ?_
  first | with_reducible refine v_if_neB hz 15 dX1_tellStep_8 (by decide) (fun c8 => ?_) (fun c8 => ?_) | with_reducible refine v_if_neN hz 15 (by omega) dX1_tellStep_8 (by decide) (fun c8 => ?_) (fun c8 => ?_) | refine v_if_ne hz 15 dX1_tellStep_8 (by decide) (fun c8 => ?_) (fun c8 => ?_)
  · refine v_iload_n hz dX1_tellStep_15 rfl ?_
    refine v_tsw hz 0 3 [48, 55, 62, 69] 76 dX1_tellStep_16 ⟨rfl, rfl⟩ (by decide) (by decide) (by decide) (fun j16 hj1_16 hj2_16 c16 => ?_) (fun c16 => ?_)
    · rcases (show j16 = 0 ∨ j16 = 1 ∨ j16 = 2 ∨ j16 = 3 by omega) with rfl | rfl | rfl | rfl
      · refine v_pc (pc' := 48) rfl ?_
        have e0 := (nI_eq (by omega) (by decide)).mp c16
        refine v_aload_n hz dX1_tellStep_48 rfl ?_
        refine v_getR hz fX1_9 (by assumption) (by assumption) dX1_tellStep_49 ?_
        refine v_iload_n hz dX1_tellStep_52 rfl ?_
        refine v_ialdN hz (by assumption) (by assumption) (by omega) (by decide) dX1_tellStep_53 ?_
        exact v_iret hz hr dX1_tellStep_54 ⟨by subst e0; rfl, rfl⟩
      · refine v_pc (pc' := 55) rfl ?_
        have e0 := (nI_eq (by omega) (by decide)).mp c16
        refine v_aload_n hz dX1_tellStep_55 rfl ?_
        refine v_getR hz fX1_15 (by assumption) (by assumption) dX1_tellStep_56 ?_
        refine v_iload_n hz dX1_tellStep_59 rfl ?_
        refine v_ialdN hz (by assumption) (by assumption) (by omega) (by decide) dX1_tellStep_60 ?_
        exact v_iret hz hr dX1_tellStep_61 ⟨by subst e0; rfl, rfl⟩
      · refine v_pc (pc' := 62) rfl ?_
        have e0 := (nI_eq (by omega) (by decide)).mp c16
        refine v_aload_n hz dX1_tellStep_62 rfl ?_
        refine v_getR hz fX1_18 (by assumption) (by assumption) dX1_tellStep_63 ?_
        refine v_iload_n hz dX1_tellStep_66 rfl ?_
        refine v_ialdN hz (by assumption) (by assumption) (by omega) (by decide) dX1_tellStep_67 ?_
        exact v_iret hz hr dX1_tellStep_68 ⟨by subst e0; rfl, rfl⟩
      · refine v_pc (pc' := 69) rfl ?_
        have e0 := (nI_eq (by omega) (by decide)).mp c16
        refine v_aload_n hz dX1_tellStep_69 rfl ?_
        refine v_getR hz fX1_21 (by assumption) (by assumption) dX1_tellStep_70 ?_
        refine v_iload_n hz dX1_tellStep_73 rfl ?_
        refine v_ialdN hz (by assumption) (by assumption) (by omega) (by decide) dX1_tellStep_74 ?_
        exact v_iret hz hr dX1_tellStep_75 ⟨by subst e0; rfl, rfl⟩
    · exact absurd ⟨v, by omega, by omega, rfl⟩ c16
  · exact absurd hkn c8
set_option maxHeartbeats 4000000 in
set_option maxRecDepth 100000 in
theorem cX1_judge_ok (l : Launch) (g : Gz) (κ : Kz) (I : Iz) (R : Rz) (J : Jz) (A : Nat → Nat) (b : Nat) (hg : LCg κ R A b) (b1 b2 w bd al sh sc w1 n1 g1 w2 n2 g2 : Nat) (hg1 : LGg κ R A b1) (hg2 : LGg κ R A b2) (hbd : bd ≤ 1000) (hw : w ≤ 20) (hal : al ≤ 320) (hsc : sc ≤ 1000) (hw1 : w1 ≤ n1) (hn1 : n1 ≤ 8) (hg1b : g1 ≤ 56) (hw2 : w2 ≤ n2) (hn2 : n2 ≤ 8) (hg2b : g2 ≤ 56) (x1 : A b1 ≠ A b) (x2 : A b2 ≠ A b) (e5 : I (A b) 5 = nI al) (e6 : I (A b) 6 = nI sh) (e9 : I (A b) 9 = nI sc) (a2 : I (A b1) 2 = nI n1) (a3 : I (A b1) 3 = nI w1) (a4 : I (A b1) 4 = nI g1) (c2 : I (A b2) 2 = nI n2) (c3 : I (A b2) 3 = nI w2) (c4 : I (A b2) 4 = nI g2) : Ct l mX1_judge 0 0 g [.ref (A b), .ref (A b1), .ref (A b2), .int (nI w), .int (nI bd)] κ I R J (Sv κ R J (fun I1 => I1 = u2 (u2 (u2 (u2 I (A b) 10 (nI (rmO bd al))) (A b) 11 (cbL w w1 w2 (n1 - w1) (n2 - w2) (rmO bd al))) (A b) 12 (cbG g1 g2 sh (rmO bd al))) (A b) 13 (bz (bd ≤ sc)))) := by
  refine ct_of (by decide) (Nat.le_of_ble_eq_true rfl) ?_
  intro z hz hr hrc hrs
  have hz : Am z cX1_judge RX1 8 1 := hz
  have hr : Rt z yX1_judge none 0 0 _ := hr
  show V z 8 0 0 0 [(0, .ref (A b)), (1, .ref (A b1)), (2, .ref (A b2)), (3, .int (nI w)), (4, .int (nI bd))] [] κ I R J
  obtain ⟨hk, ho, ⟨hR0, hK1, hN1, ho1⟩, ⟨hR1, hK2, hN2, ho2⟩, ⟨hR2, hK3, hN3, ho3⟩, ⟨hR3, hK4, hN4, ho4⟩⟩ := id hg
  have d1 : A b ≠ A (b + 1) := tag_ne ho ho1 (by omega)
  have d2 : A b ≠ A (b + 2) := tag_ne ho ho2 (by omega)
  have d3 : A b ≠ A (b + 3) := tag_ne ho ho3 (by omega)
  have d4 : A b ≠ A (b + 4) := tag_ne ho ho4 (by omega)
  have hk1 := hg1.1
  have hk2 := hg2.1
  have hrm : rmO bd al ≤ 320 := by
    unfold rmO
    have : (1000 - bd) * al ≤ 1000 * al := Nat.mul_le_mul_right al (by omega)
    omega
  have hmul : (1000 - bd) * al ≤ 320000 := by
    have := Nat.mul_le_mul (show 1000 - bd ≤ 1000 by omega) hal
    omega
  have hwt : w * adf (n1 - w1) (n2 - w2) ≤ 20 * 16 := Nat.mul_le_mul hw (by unfold adf; omega)
  have hwd : adf w1 w2 ≤ 16 := by unfold adf; omega
  refine v_aload_n hz dX1_judge_0 rfl ?_
  refine v_si (v := nI 1000) hz dX1_judge_1 (by decide) ?_
  refine v_iload hz dX1_judge_4 rfl ?_
  refine v_isubN hz (by omega) dX1_judge_6 ?_
  refine v_aload_n hz dX1_judge_7 rfl ?_
  refine v_getI hz fX1_31 (by assumption) dX1_judge_8 ?_
  refine v_top e5 ?_
  first | with_reducible refine v_imulN hz dX1_judge_11 ?_ | refine v_imul hz dX1_judge_11 ?_
  refine v_si (v := nI 1000) hz dX1_judge_12 (by decide) ?_
  refine v_idivN hz (by omega) (by decide) (by decide) dX1_judge_15 ?_
  refine v_putI hz fX1_40 (by assumption) dX1_judge_16 ?_
  refine v_gen (fun I2 hI2 => ?_)
  have o1 : I2 (A b1) = I (A b1) := by rw [hI2]; exact u2_ne x1
  have o2 : I2 (A b2) = I (A b2) := by rw [hI2]; exact u2_ne x2
  have o10 : I2 (A b) 10 = nI (rmO bd al) := by rw [hI2]; exact u2_eq
  refine v_aload_n hz dX1_judge_19 rfl ?_
  refine v_getI hz fX1_43 (by assumption) dX1_judge_20 ?_
  refine v_top (y := nI w1) (by rw [o1]; exact a3) ?_
  refine v_aload_n hz dX1_judge_23 rfl ?_
  refine v_getI hz fX1_43 (by assumption) dX1_judge_24 ?_
  refine v_top (y := nI w2) (by rw [o2]; exact c3) ?_
  refine v_isub hz dX1_judge_27 ?_
  refine v_mabs hz (tg_mem 609 (by decide +kernel) rfl) (tg_mem 610 (by decide +kernel) rfl) (tg_mem 82 (by decide +kernel) rfl) (tg_mem 611 (by decide +kernel) rfl) (by decide) (Nat.le_of_ble_eq_true rfl) ⟨Nat.zero_le _, Nat.zero_le _⟩ dX1_judge_28 ?_
  refine v_top (abs_N (by omega) (by omega)) ?_
  refine v_istore hz dX1_judge_31 (by decide) rfl ?_
  refine v_aload_n hz dX1_judge_33 rfl ?_
  refine v_callVi hz lX1_54 (cX5_tags_ok _ _ _ _ _ _ A b1 hg1 n1 w1 hw1 (by rw [o1]; exact a2) (by rw [o1]; exact a3)) (by assumption) rfl rfl (Nat.le_of_ble_eq_true rfl) (by decide) ⟨Nat.zero_le _, Nat.zero_le _⟩ dX1_judge_34 (fun r I1 h34 => ?_)
  obtain ⟨rfl, rfl⟩ := h34
  refine v_aload_n hz dX1_judge_37 rfl ?_
  refine v_callVi hz lX1_54 (cX5_tags_ok _ _ _ _ _ _ A b2 hg2 n2 w2 hw2 (by rw [o2]; exact c2) (by rw [o2]; exact c3)) (by assumption) rfl rfl (Nat.le_of_ble_eq_true rfl) (by decide) ⟨Nat.zero_le _, Nat.zero_le _⟩ dX1_judge_38 (fun r I1 h38 => ?_)
  obtain ⟨rfl, rfl⟩ := h38
  refine v_isub hz dX1_judge_41 ?_
  refine v_mabs hz (tg_mem 609 (by decide +kernel) rfl) (tg_mem 610 (by decide +kernel) rfl) (tg_mem 82 (by decide +kernel) rfl) (tg_mem 611 (by decide +kernel) rfl) (by decide) (Nat.le_of_ble_eq_true rfl) ⟨Nat.zero_le _, Nat.zero_le _⟩ dX1_judge_42 ?_
  refine v_top (abs_N (by omega) (by omega)) ?_
  refine v_istore hz dX1_judge_45 (by decide) rfl ?_
  refine v_aload_n hz dX1_judge_47 rfl ?_
  refine v_bi (v := nI 10) hz dX1_judge_48 (by decide) ?_
  refine v_iload hz dX1_judge_50 rfl ?_
  first | with_reducible refine v_imulN hz dX1_judge_52 ?_ | refine v_imul hz dX1_judge_52 ?_
  refine v_iload_n hz dX1_judge_53 rfl ?_
  refine v_iload hz dX1_judge_54 rfl ?_
  first | with_reducible refine v_imulN hz dX1_judge_56 ?_ | refine v_imul hz dX1_judge_56 ?_
  first | with_reducible refine v_iaddN hz dX1_judge_57 ?_ | refine v_iadd hz dX1_judge_57 ?_
  refine v_aload_n hz dX1_judge_58 rfl ?_
  refine v_getI hz fX1_40 (by assumption) dX1_judge_59 ?_
  refine v_top o10 ?_
  first | with_reducible refine v_icmp_gtN hz 69 (by omega) (by omega) dX1_judge_62 (by decide) (fun c62 => ?_) (fun c62 => ?_) | refine v_icmp_gt hz 69 dX1_judge_62 (by decide) (fun c62 => ?_) (fun c62 => ?_)
  · refine v_ic (v := nI 0) hz dX1_judge_69 (by decide) ?_
    refine v_top (y := cbL w w1 w2 (n1 - w1) (n2 - w2) (rmO bd al)) (by unfold cbL; first | exact (bz_t (by omega)).symm | exact (bz_f (by omega)).symm) ?_
    refine v_putZ hz fX1_58 (by assumption) bz_01 dX1_judge_70 ?_
    refine v_gen (fun I3 hI3 => ?_)
    have p1 : I3 (A b1) = I (A b1) := by rw [hI3, u2_ne x1]; exact o1
    have p2 : I3 (A b2) = I (A b2) := by rw [hI3, u2_ne x2]; exact o2
    have p10 : I3 (A b) 10 = nI (rmO bd al) := by rw [hI3, u2_at (by decide)]; exact o10
    have p6 : I3 (A b) 6 = nI sh := by rw [hI3, u2_at (by decide), hI2, u2_at (by decide)]; exact e6
    refine v_aload_n hz dX1_judge_73 rfl ?_
    refine v_getI hz fX1_62 (by assumption) dX1_judge_74 ?_
    refine v_top (y := nI g1) (by rw [p1]; exact a4) ?_
    refine v_aload_n hz dX1_judge_77 rfl ?_
    refine v_getI hz fX1_62 (by assumption) dX1_judge_78 ?_
    refine v_top (y := nI g2) (by rw [p2]; exact c4) ?_
    refine v_mmax hz (tg_mem 613 (by decide +kernel) rfl) (tg_mem 520 (by decide +kernel) rfl) (tg_mem 82 (by decide +kernel) rfl) (tg_mem 521 (by decide +kernel) rfl) (by decide) (Nat.le_of_ble_eq_true rfl) ⟨Nat.zero_le _, Nat.zero_le _⟩ dX1_judge_81 ?_
    refine v_top (max_N (by omega) (by omega)) ?_
    refine v_istore hz dX1_judge_84 (by decide) rfl ?_
    refine v_aload_n hz dX1_judge_86 rfl ?_
    refine v_ic (v := nI 5) hz dX1_judge_87 (by decide) ?_
    refine v_iload hz dX1_judge_88 rfl ?_
    refine v_aload_n hz dX1_judge_90 rfl ?_
    refine v_getI hz fX1_69 (by assumption) dX1_judge_91 ?_
    refine v_top p6 ?_
    refine v_isub hz dX1_judge_94 ?_
    refine v_imul hz dX1_judge_95 ?_
    refine v_bi (v := nI 12) hz dX1_judge_96 (by decide) ?_
    refine v_aload_n hz dX1_judge_98 rfl ?_
    refine v_getI hz fX1_40 (by assumption) dX1_judge_99 ?_
    refine v_top p10 ?_
    first | with_reducible refine v_imulN hz dX1_judge_102 ?_ | refine v_imul hz dX1_judge_102 ?_
    refine v_icmp_gt hz 110 dX1_judge_103 (by decide) (fun c103 => ?_) (fun c103 => ?_)
    · refine v_ic (v := nI 0) hz dX1_judge_110 (by decide) ?_
      refine v_top (y := cbG g1 g2 sh (rmO bd al)) (by unfold cbG; first | exact (bz_t (Int32.not_lt.mp c103)).symm | exact (bz_f (Int32.not_le.mpr c103)).symm) ?_
      refine v_putZ hz fX1_72 (by assumption) bz_01 dX1_judge_111 ?_
      refine v_gen (fun I4 hI4 => ?_)
      refine v_aload_n hz dX1_judge_114 rfl ?_
      refine v_aload_n hz dX1_judge_115 rfl ?_
      refine v_getI hz fX1_37 (by assumption) dX1_judge_116 ?_
      refine v_top (y := nI sc) (by rw [hI4, u2_at (by decide), hI3, u2_at (by decide), hI2, u2_at (by decide)]; exact e9) ?_
      refine v_iload hz dX1_judge_119 rfl ?_
      first | with_reducible refine v_icmp_ltN hz 128 (by omega) (by omega) dX1_judge_121 (by decide) (fun c121 => ?_) (fun c121 => ?_) | refine v_icmp_lt hz 128 dX1_judge_121 (by decide) (fun c121 => ?_) (fun c121 => ?_)
      · refine v_ic (v := nI 0) hz dX1_judge_128 (by decide) ?_
        refine v_top (y := bz (bd ≤ sc)) (by first | exact (bz_t (by omega)).symm | exact (bz_f (by omega)).symm) ?_
        refine v_putZ hz fX1_75 (by assumption) bz_01 dX1_judge_129 ?_
        exact v_vret hz hr dX1_judge_132 (by subst hI4; subst hI3; subst hI2; rfl)
      · refine v_ic (v := nI 1) hz dX1_judge_124 (by decide) ?_
        refine v_goto hz 129 dX1_judge_125 (by decide) ?_
        refine v_top (y := bz (bd ≤ sc)) (by first | exact (bz_t (by omega)).symm | exact (bz_f (by omega)).symm) ?_
        refine v_putZ hz fX1_75 (by assumption) bz_01 dX1_judge_129 ?_
        exact v_vret hz hr dX1_judge_132 (by subst hI4; subst hI3; subst hI2; rfl)
    · refine v_ic (v := nI 1) hz dX1_judge_106 (by decide) ?_
      refine v_goto hz 111 dX1_judge_107 (by decide) ?_
      refine v_top (y := cbG g1 g2 sh (rmO bd al)) (by unfold cbG; first | exact (bz_t (Int32.not_lt.mp c103)).symm | exact (bz_f (Int32.not_le.mpr c103)).symm) ?_
      refine v_putZ hz fX1_72 (by assumption) bz_01 dX1_judge_111 ?_
      refine v_gen (fun I4 hI4 => ?_)
      refine v_aload_n hz dX1_judge_114 rfl ?_
      refine v_aload_n hz dX1_judge_115 rfl ?_
      refine v_getI hz fX1_37 (by assumption) dX1_judge_116 ?_
      refine v_top (y := nI sc) (by rw [hI4, u2_at (by decide), hI3, u2_at (by decide), hI2, u2_at (by decide)]; exact e9) ?_
      refine v_iload hz dX1_judge_119 rfl ?_
      first | with_reducible refine v_icmp_ltN hz 128 (by omega) (by omega) dX1_judge_121 (by decide) (fun c121 => ?_) (fun c121 => ?_) | refine v_icmp_lt hz 128 dX1_judge_121 (by decide) (fun c121 => ?_) (fun c121 => ?_)
      · refine v_ic (v := nI 0) hz dX1_judge_128 (by decide) ?_
        refine v_top (y := bz (bd ≤ sc)) (by first | exact (bz_t (by omega)).symm | exact (bz_f (by omega)).symm) ?_
        refine v_putZ hz fX1_75 (by assumption) bz_01 dX1_judge_129 ?_
        exact v_vret hz hr dX1_judge_132 (by subst hI4; subst hI3; subst hI2; rfl)
      · refine v_ic (v := nI 1) hz dX1_judge_124 (by decide) ?_
        refine v_goto hz 129 dX1_judge_125 (by decide) ?_
        refine v_top (y := bz (bd ≤ sc)) (by first | exact (bz_t (by omega)).symm | exact (bz_f (by omega)).symm) ?_
        refine v_putZ hz fX1_75 (by assumption) bz_01 dX1_judge_129 ?_
        exact v_vret hz hr dX1_judge_132 (by subst hI4; subst hI3; subst hI2; rfl)
  · refine v_ic (v := nI 1) hz dX1_judge_65 (by decide) ?_
    refine v_goto hz 70 dX1_judge_66 (by decide) ?_
    refine v_top (y := cbL w w1 w2 (n1 - w1) (n2 - w2) (rmO bd al)) (by unfold cbL; first | exact (bz_t (by omega)).symm | exact (bz_f (by omega)).symm) ?_
    refine v_putZ hz fX1_58 (by assumption) bz_01 dX1_judge_70 ?_
    refine v_gen (fun I3 hI3 => ?_)
    have p1 : I3 (A b1) = I (A b1) := by rw [hI3, u2_ne x1]; exact o1
    have p2 : I3 (A b2) = I (A b2) := by rw [hI3, u2_ne x2]; exact o2
    have p10 : I3 (A b) 10 = nI (rmO bd al) := by rw [hI3, u2_at (by decide)]; exact o10
    have p6 : I3 (A b) 6 = nI sh := by rw [hI3, u2_at (by decide), hI2, u2_at (by decide)]; exact e6
    refine v_aload_n hz dX1_judge_73 rfl ?_
    refine v_getI hz fX1_62 (by assumption) dX1_judge_74 ?_
    refine v_top (y := nI g1) (by rw [p1]; exact a4) ?_
    refine v_aload_n hz dX1_judge_77 rfl ?_
    refine v_getI hz fX1_62 (by assumption) dX1_judge_78 ?_
    refine v_top (y := nI g2) (by rw [p2]; exact c4) ?_
    refine v_mmax hz (tg_mem 613 (by decide +kernel) rfl) (tg_mem 520 (by decide +kernel) rfl) (tg_mem 82 (by decide +kernel) rfl) (tg_mem 521 (by decide +kernel) rfl) (by decide) (Nat.le_of_ble_eq_true rfl) ⟨Nat.zero_le _, Nat.zero_le _⟩ dX1_judge_81 ?_
    refine v_top (max_N (by omega) (by omega)) ?_
    refine v_istore hz dX1_judge_84 (by decide) rfl ?_
    refine v_aload_n hz dX1_judge_86 rfl ?_
    refine v_ic (v := nI 5) hz dX1_judge_87 (by decide) ?_
    refine v_iload hz dX1_judge_88 rfl ?_
    refine v_aload_n hz dX1_judge_90 rfl ?_
    refine v_getI hz fX1_69 (by assumption) dX1_judge_91 ?_
    refine v_top p6 ?_
    refine v_isub hz dX1_judge_94 ?_
    refine v_imul hz dX1_judge_95 ?_
    refine v_bi (v := nI 12) hz dX1_judge_96 (by decide) ?_
    refine v_aload_n hz dX1_judge_98 rfl ?_
    refine v_getI hz fX1_40 (by assumption) dX1_judge_99 ?_
    refine v_top p10 ?_
    first | with_reducible refine v_imulN hz dX1_judge_102 ?_ | refine v_imul hz dX1_judge_102 ?_
    refine v_icmp_gt hz 110 dX1_judge_103 (by decide) (fun c103 => ?_) (fun c103 => ?_)
    · refine v_ic (v := nI 0) hz dX1_judge_110 (by decide) ?_
      refine v_top (y := cbG g1 g2 sh (rmO bd al)) (by unfold cbG; first | exact (bz_t (Int32.not_lt.mp c103)).symm | exact (bz_f (Int32.not_le.mpr c103)).symm) ?_
      refine v_putZ hz fX1_72 (by assumption) bz_01 dX1_judge_111 ?_
      refine v_gen (fun I4 hI4 => ?_)
      refine v_aload_n hz dX1_judge_114 rfl ?_
      refine v_aload_n hz dX1_judge_115 rfl ?_
      refine v_getI hz fX1_37 (by assumption) dX1_judge_116 ?_
      refine v_top (y := nI sc) (by rw [hI4, u2_at (by decide), hI3, u2_at (by decide), hI2, u2_at (by decide)]; exact e9) ?_
      refine v_iload hz dX1_judge_119 rfl ?_
      first | with_reducible refine v_icmp_ltN hz 128 (by omega) (by omega) dX1_judge_121 (by decide) (fun c121 => ?_) (fun c121 => ?_) | refine v_icmp_lt hz 128 dX1_judge_121 (by decide) (fun c121 => ?_) (fun c121 => ?_)
      · refine v_ic (v := nI 0) hz dX1_judge_128 (by decide) ?_
        refine v_top (y := bz (bd ≤ sc)) (by first | exact (bz_t (by omega)).symm | exact (bz_f (by omega)).symm) ?_
        refine v_putZ hz fX1_75 (by assumption) bz_01 dX1_judge_129 ?_
        exact v_vret hz hr dX1_judge_132 (by subst hI4; subst hI3; subst hI2; rfl)
      · refine v_ic (v := nI 1) hz dX1_judge_124 (by decide) ?_
        refine v_goto hz 129 dX1_judge_125 (by decide) ?_
        refine v_top (y := bz (bd ≤ sc)) (by first | exact (bz_t (by omega)).symm | exact (bz_f (by omega)).symm) ?_
        refine v_putZ hz fX1_75 (by assumption) bz_01 dX1_judge_129 ?_
        exact v_vret hz hr dX1_judge_132 (by subst hI4; subst hI3; subst hI2; rfl)
    · refine v_ic (v := nI 1) hz dX1_judge_106 (by decide) ?_
      refine v_goto hz 111 dX1_judge_107 (by decide) ?_
      refine v_top (y := cbG g1 g2 sh (rmO bd al)) (by unfold cbG; first | exact (bz_t (Int32.not_lt.mp c103)).symm | exact (bz_f (Int32.not_le.mpr c103)).symm) ?_
      refine v_putZ hz fX1_72 (by assumption) bz_01 dX1_judge_111 ?_
      refine v_gen (fun I4 hI4 => ?_)
      refine v_aload_n hz dX1_judge_114 rfl ?_
      refine v_aload_n hz dX1_judge_115 rfl ?_
      refine v_getI hz fX1_37 (by assumption) dX1_judge_116 ?_
      refine v_top (y := nI sc) (by rw [hI4, u2_at (by decide), hI3, u2_at (by decide), hI2, u2_at (by decide)]; exact e9) ?_
      refine v_iload hz dX1_judge_119 rfl ?_
      first | with_reducible refine v_icmp_ltN hz 128 (by omega) (by omega) dX1_judge_121 (by decide) (fun c121 => ?_) (fun c121 => ?_) | refine v_icmp_lt hz 128 dX1_judge_121 (by decide) (fun c121 => ?_) (fun c121 => ?_)
      · refine v_ic (v := nI 0) hz dX1_judge_128 (by decide) ?_
        refine v_top (y := bz (bd ≤ sc)) (by first | exact (bz_t (by omega)).symm | exact (bz_f (by omega)).symm) ?_
        refine v_putZ hz fX1_75 (by assumption) bz_01 dX1_judge_129 ?_
        exact v_vret hz hr dX1_judge_132 (by subst hI4; subst hI3; subst hI2; rfl)
      · refine v_ic (v := nI 1) hz dX1_judge_124 (by decide) ?_
        refine v_goto hz 129 dX1_judge_125 (by decide) ?_
        refine v_top (y := bz (bd ≤ sc)) (by first | exact (bz_t (by omega)).symm | exact (bz_f (by omega)).symm) ?_
        refine v_putZ hz fX1_75 (by assumption) bz_01 dX1_judge_129 ?_
        exact v_vret hz hr dX1_judge_132 (by subst hI4; subst hI3; subst hI2; rfl)
