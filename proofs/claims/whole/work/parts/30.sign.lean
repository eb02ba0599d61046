/-! ===== the class: a sign, its object at the tag b, its letters at b + 1 ===== -/
def LSg (κ : Kz) (R : Rz) (A : Nat → Nat) (b : Nat) : Prop := κ.1 (A b) = 6 ∧ R (A b) 0 = some (A (b + 1)) ∧ κ.1 (A (b + 1)) = 9 ∧ κ.2.1 (A (b + 1)) = 12 ∧ κ.2.2 (A b) = b ∧ κ.2.2 (A (b + 1)) = b + 1
/-- what a sign holds -/
def csn (I : Iz) (A : Nat → Nat) (b L D : Nat) (T : Nat → Nat) : Prop := L ≤ 12 ∧ I (A b) 1 = nI L ∧ I (A b) 2 = nI D ∧ D < 10 ∧ ∀ j, j < L → I (A (b + 1)) j = nI (T j) ∧ T j < 128
theorem csn.keep {I I1 : Iz} {A : Nat → Nat} {b L D : Nat} {T : Nat → Nat} (h : csn I A b L D T) (h1 : I1 (A b) = I (A b)) (h2 : I1 (A (b + 1)) = I (A (b + 1))) : csn I1 A b L D T := by
  unfold csn
  rw [h1, h2]
  exact h
theorem within_N {a b : Nat} (ha : a < 2147483648) (hb : b < 2147483648) : bz (0 ≤ nI a ∧ nI a < nI b) = bz (a < b) := by
  have h0 : 0 ≤ nI a := nI_pos' ha
  by_cases h : a < b
  · rw [bz_t h, bz_t ⟨h0, (nI_ltI ha hb).mpr h⟩]
  · rw [bz_f h, bz_f (fun q => h ((nI_ltI ha hb).mp q.2))]
theorem small_N {c : Nat} (h : c < 2147483648) : bz (nI 97 ≤ nI c ∧ nI c ≤ nI 122) = bz (97 ≤ c ∧ c ≤ 122) := by
  have e1 := nI_leI (a := 97) (b := c) (by decide) h
  have e2 := nI_leI (a := c) (b := 122) h (by decide)
  by_cases q : 97 ≤ c ∧ c ≤ 122
  · rw [bz_t q, bz_t ⟨e1.mpr q.1, e2.mpr q.2⟩]
  · rw [bz_f q, bz_f (fun r => q ⟨e1.mp r.1, e2.mp r.2⟩)]
/-- what a sign's memory is behind a letter that it takes -/
def tkI (I : Iz) (A : Nat → Nat) (b L c : Nat) : Iz := if 49 ≤ c ∧ c ≤ 57 then u2 I (A b) 2 (nI (c - 48)) else if (97 ≤ c ∧ c ≤ 122) ∧ L < 12 then u2 (u2 I (A (b + 1)) L (nI c)) (A b) 1 (nI (L + 1)) else I
set_option maxHeartbeats 4000000 in
set_option maxRecDepth 100000 in
theorem cX6_clear_ok (l : Launch) (g : Gz) (κ : Kz) (I : Iz) (R : Rz) (J : Jz) (A : Nat → Nat) (b : Nat) (hs : LSg κ R A b)  : Ct l mX6_clear 0 0 g [.ref (A b)] κ I R J (Sv κ R J (fun I1 => I1 = u2 (u2 I (A b) 1 (nI 0)) (A b) 2 (nI 0))) := by
  refine ct_of (by decide) (Nat.le_of_ble_eq_true rfl) ?_
  intro z hz hr hrc hrs
  have hz : Am z cX6_clear RX6 1 0 := hz
  have hr : Rt z yX6_clear none 0 0 _ := hr
  show V z 1 0 0 0 [(0, .ref (A b))] [] κ I R J
  obtain ⟨hk, hR0, hK1, hN1, ho, ho1⟩ := hs
  have hne : A b ≠ A (b + 1) := tag_ne ho ho1 (by omega)
  refine v_aload_n hz dX6_clear_0 rfl ?_
  refine v_ic (v := nI 0) hz dX6_clear_1 (by decide) ?_
  refine v_putI hz fX6_15 (by assumption) dX6_clear_2 ?_
  refine v_aload_n hz dX6_clear_5 rfl ?_
  refine v_ic (v := nI 0) hz dX6_clear_6 (by decide) ?_
  refine v_putI hz fX6_19 (by assumption) dX6_clear_7 ?_
  exact v_vret hz hr dX6_clear_10 rfl
set_option maxHeartbeats 4000000 in
set_option maxRecDepth 100000 in
theorem cX6_isWord_ok (l : Launch) (g : Gz) (κ : Kz) (I : Iz) (R : Rz) (J : Jz) (A : Nat → Nat) (b : Nat) (hs : LSg κ R A b) (L : Nat) (hL : L ≤ 12) (h1 : I (A b) 1 = nI L) : Ct l mX6_isWord 0 0 g [.ref (A b)] κ I R J (Si κ R J (fun r I1 => r = bz (0 < L) ∧ I1 = I)) := by
  refine ct_of (by decide) (Nat.le_of_ble_eq_true rfl) ?_
  intro z hz hr hrc hrs
  have hz : Am z cX6_isWord RX6 1 0 := hz
  have hr : Rt z yX6_isWord (some .boolean) 0 0 _ := hr
  show V z 1 0 0 0 [(0, .ref (A b))] [] κ I R J
  obtain ⟨hk, hR0, hK1, hN1, ho, ho1⟩ := hs
  have hne : A b ≠ A (b + 1) := tag_ne ho ho1 (by omega)
  refine v_aload_n hz dX6_isWord_0 rfl ?_
  refine v_getI hz fX6_15 (by assumption) dX6_isWord_1 ?_
  refine v_top h1 ?_
  first | with_reducible refine v_if_leN hz 11 (by omega) dX6_isWord_4 (by decide) (fun c4 => ?_) (fun c4 => ?_) | refine v_if_le hz 11 dX6_isWord_4 (by decide) (fun c4 => ?_) (fun c4 => ?_)
  · refine v_ic (v := nI 0) hz dX6_isWord_11 (by decide) ?_
    exact v_zret hz hr dX6_isWord_12 (by first | exact Or.inl rfl | exact Or.inr rfl | exact bz_01) ⟨by first | exact (bz_t (by omega)).symm | exact (bz_f (by omega)).symm, rfl⟩
  · refine v_ic (v := nI 1) hz dX6_isWord_7 (by decide) ?_
    refine v_goto hz 12 dX6_isWord_8 (by decide) ?_
    exact v_zret hz hr dX6_isWord_12 (by first | exact Or.inl rfl | exact Or.inr rfl | exact bz_01) ⟨by first | exact (bz_t (by omega)).symm | exact (bz_f (by omega)).symm, rfl⟩
set_option maxHeartbeats 4000000 in
set_option maxRecDepth 100000 in
theorem cX6_cost_ok (l : Launch) (g : Gz) (κ : Kz) (I : Iz) (R : Rz) (J : Jz) (A : Nat → Nat) (b : Nat) (hs : LSg κ R A b) (L w : Nat) (hL : L ≤ 12) (h1 : I (A b) 1 = nI L) : Ct l mX6_cost 0 0 g [.ref (A b), .int (nI w)] κ I R J (Si κ R J (fun r I1 => r = nI (cst w L) ∧ I1 = I)) := by
  refine ct_of (by decide) (Nat.le_of_ble_eq_true rfl) ?_
  intro z hz hr hrc hrs
  have hz : Am z cX6_cost RX6 2 1 := hz
  have hr : Rt z yX6_cost (some .int) 0 0 _ := hr
  show V z 2 0 0 0 [(0, .ref (A b)), (1, .int (nI w))] [] κ I R J
  obtain ⟨hk, hR0, hK1, hN1, ho, ho1⟩ := hs
  have hne : A b ≠ A (b + 1) := tag_ne ho ho1 (by omega)
  refine v_aload_n hz dX6_cost_0 rfl ?_
  refine v_callVi hz lX6_26 (cX6_isWord_ok _ _ _ _ _ _ A b ⟨hk, hR0, hK1, hN1, ho, ho1⟩ L hL h1) (by assumption) rfl rfl (Nat.le_of_ble_eq_true rfl) (by decide) ⟨Nat.zero_le _, Nat.zero_le _⟩ dX6_cost_1 (fun r I1 hw1 => ?_)
  obtain ⟨rfl, rfl⟩ := hw1
  first | with_reducible refine v_if_eqB hz 12 dX6_cost_4 (by decide) (fun c4 => ?_) (fun c4 => ?_) | with_reducible refine v_if_eqN hz 12 (by omega) dX6_cost_4 (by decide) (fun c4 => ?_) (fun c4 => ?_) | refine v_if_eq hz 12 dX6_cost_4 (by decide) (fun c4 => ?_) (fun c4 => ?_)
  · refine v_iload_n hz dX6_cost_12 rfl ?_
    exact v_iret hz hr dX6_cost_13 ⟨by first | rw [cst, if_pos c4] | rw [cst, if_neg c4], rfl⟩
  · refine v_bi (v := nI 10) hz dX6_cost_7 (by decide) ?_
    refine v_goto hz 13 dX6_cost_9 (by decide) ?_
    exact v_iret hz hr dX6_cost_13 ⟨by first | rw [cst, if_pos c4] | rw [cst, if_neg c4], rfl⟩
set_option maxHeartbeats 4000000 in
set_option maxRecDepth 100000 in
theorem cX6_take_ok (l : Launch) (g : Gz) (κ : Kz) (I : Iz) (R : Rz) (J : Jz) (A : Nat → Nat) (b : Nat) (hs : LSg κ R A b) (L c : Nat) (hL : L ≤ 12) (h1 : I (A b) 1 = nI L) (hc : c ≤ 126) : Ct l mX6_take 0 0 g [.ref (A b), .int (nI c)] κ I R J (Sv κ R J (fun I1 => I1 = tkI I A b L c)) := by
  refine ct_of (by decide) (Nat.le_of_ble_eq_true rfl) ?_
  intro z hz hr hrc hrs
  have hz : Am z cX6_take RX6 2 1 := hz
  have hr : Rt z yX6_take none 0 0 _ := hr
  show V z 2 0 0 0 [(0, .ref (A b)), (1, .int (nI c))] [] κ I R J
  obtain ⟨hk, hR0, hK1, hN1, ho, ho1⟩ := hs
  have hne : A b ≠ A (b + 1) := tag_ne ho ho1 (by omega)
  refine v_iload_n hz dX6_take_0 rfl ?_
  refine v_bi (v := nI 49) hz dX6_take_1 (by decide) ?_
  first | with_reducible refine v_icmp_ltN hz 23 (by omega) (by omega) dX6_take_3 (by decide) (fun c3 => ?_) (fun c3 => ?_) | refine v_icmp_lt hz 23 dX6_take_3 (by decide) (fun c3 => ?_) (fun c3 => ?_)
  · refine v_iload_n hz dX6_take_23 rfl ?_
    refine v_callSi hz lX6_22 (cX7_isSmallLetter_ok _ _ _ _ _ _ _) rfl rfl (Nat.le_of_ble_eq_true rfl) (by decide) ⟨Nat.zero_le _, Nat.zero_le _⟩ dX6_take_24 (fun r I1 h24 => ?_)
    obtain ⟨rfl, rfl⟩ := h24
    refine v_top (small_N (by omega)) ?_
    first | with_reducible refine v_if_eqB hz 62 dX6_take_27 (by decide) (fun c27 => ?_) (fun c27 => ?_) | with_reducible refine v_if_eqN hz 62 (by omega) dX6_take_27 (by decide) (fun c27 => ?_) (fun c27 => ?_) | refine v_if_eq hz 62 dX6_take_27 (by decide) (fun c27 => ?_) (fun c27 => ?_)
    · exact v_vret hz hr dX6_take_62 (by first | exact (if_pos ⟨by omega, by omega⟩).symm | exact ((if_neg (by omega)).trans (if_pos ⟨c27, by omega⟩)).symm | exact ((if_neg (by omega)).trans (if_neg (by omega))).symm)
    · refine v_aload_n hz dX6_take_30 rfl ?_
      refine v_getI hz fX6_15 (by assumption) dX6_take_31 ?_
      refine v_top h1 ?_
      refine v_aload_n hz dX6_take_34 rfl ?_
      refine v_getR hz fX6_9 (by assumption) (by assumption) dX6_take_35 ?_
      refine v_alenN hz (by omega) (by assumption) dX6_take_38 ?_
      first | with_reducible refine v_icmp_geN hz 62 (by omega) (by omega) dX6_take_39 (by decide) (fun c39 => ?_) (fun c39 => ?_) | refine v_icmp_ge hz 62 dX6_take_39 (by decide) (fun c39 => ?_) (fun c39 => ?_)
      · exact v_vret hz hr dX6_take_62 (by first | exact (if_pos ⟨by omega, by omega⟩).symm | exact ((if_neg (by omega)).trans (if_pos ⟨c27, by omega⟩)).symm | exact ((if_neg (by omega)).trans (if_neg (by omega))).symm)
      · refine v_aload_n hz dX6_take_42 rfl ?_
        refine v_getR hz fX6_9 (by assumption) (by assumption) dX6_take_43 ?_
        refine v_aload_n hz dX6_take_46 rfl ?_
        refine v_getI hz fX6_15 (by assumption) dX6_take_47 ?_
        refine v_top h1 ?_
        refine v_iload_n hz dX6_take_50 rfl ?_
        refine v_iastN hz (by assumption) (by assumption) (by omega) (by decide) dX6_take_51 ?_
        refine v_aload_n hz dX6_take_52 rfl ?_
        refine v_dup hz dX6_take_53 rfl ?_
        refine v_getI hz fX6_15 (by assumption) dX6_take_54 ?_
        refine v_top (y := nI L) (by rw [u2_ne hne]; exact h1) ?_
        refine v_ic (v := nI 1) hz dX6_take_57 (by decide) ?_
        first | with_reducible refine v_iaddN hz dX6_take_58 ?_ | refine v_iadd hz dX6_take_58 ?_
        refine v_putI hz fX6_15 (by assumption) dX6_take_59 ?_
        exact v_vret hz hr dX6_take_62 (by first | exact (if_pos ⟨by omega, by omega⟩).symm | exact ((if_neg (by omega)).trans (if_pos ⟨c27, by omega⟩)).symm | exact ((if_neg (by omega)).trans (if_neg (by omega))).symm)
  · refine v_iload_n hz dX6_take_6 rfl ?_
    refine v_bi (v := nI 57) hz dX6_take_7 (by decide) ?_
    first | with_reducible refine v_icmp_gtN hz 23 (by omega) (by omega) dX6_take_9 (by decide) (fun c9 => ?_) (fun c9 => ?_) | refine v_icmp_gt hz 23 dX6_take_9 (by decide) (fun c9 => ?_) (fun c9 => ?_)
    · refine v_iload_n hz dX6_take_23 rfl ?_
      refine v_callSi hz lX6_22 (cX7_isSmallLetter_ok _ _ _ _ _ _ _) rfl rfl (Nat.le_of_ble_eq_true rfl) (by decide) ⟨Nat.zero_le _, Nat.zero_le _⟩ dX6_take_24 (fun r I1 h24 => ?_)
      obtain ⟨rfl, rfl⟩ := h24
      refine v_top (small_N (by omega)) ?_
      first | with_reducible refine v_if_eqB hz 62 dX6_take_27 (by decide) (fun c27 => ?_) (fun c27 => ?_) | with_reducible refine v_if_eqN hz 62 (by omega) dX6_take_27 (by decide) (fun c27 => ?_) (fun c27 => ?_) | refine v_if_eq hz 62 dX6_take_27 (by decide) (fun c27 => ?_) (fun c27 => ?_)
      · exact v_vret hz hr dX6_take_62 (by first | exact (if_pos ⟨by omega, by omega⟩).symm | exact ((if_neg (by omega)).trans (if_pos ⟨c27, by omega⟩)).symm | exact ((if_neg (by omega)).trans (if_neg (by omega))).symm)
      · refine v_aload_n hz dX6_take_30 rfl ?_
        refine v_getI hz fX6_15 (by assumption) dX6_take_31 ?_
        refine v_top h1 ?_
        refine v_aload_n hz dX6_take_34 rfl ?_
        refine v_getR hz fX6_9 (by assumption) (by assumption) dX6_take_35 ?_
        refine v_alenN hz (by omega) (by assumption) dX6_take_38 ?_
        first | with_reducible refine v_icmp_geN hz 62 (by omega) (by omega) dX6_take_39 (by decide) (fun c39 => ?_) (fun c39 => ?_) | refine v_icmp_ge hz 62 dX6_take_39 (by decide) (fun c39 => ?_) (fun c39 => ?_)
        · exact v_vret hz hr dX6_take_62 (by first | exact (if_pos ⟨by omega, by omega⟩).symm | exact ((if_neg (by omega)).trans (if_pos ⟨c27, by omega⟩)).symm | exact ((if_neg (by omega)).trans (if_neg (by omega))).symm)
        · refine v_aload_n hz dX6_take_42 rfl ?_
          refine v_getR hz fX6_9 (by assumption) (by assumption) dX6_take_43 ?_
          refine v_aload_n hz dX6_take_46 rfl ?_
          refine v_getI hz fX6_15 (by assumption) dX6_take_47 ?_
          refine v_top h1 ?_
          refine v_iload_n hz dX6_take_50 rfl ?_
          refine v_iastN hz (by assumption) (by assumption) (by omega) (by decide) dX6_take_51 ?_
          refine v_aload_n hz dX6_take_52 rfl ?_
          refine v_dup hz dX6_take_53 rfl ?_
          refine v_getI hz fX6_15 (by assumption) dX6_take_54 ?_
          refine v_top (y := nI L) (by rw [u2_ne hne]; exact h1) ?_
          refine v_ic (v := nI 1) hz dX6_take_57 (by decide) ?_
          first | with_reducible refine v_iaddN hz dX6_take_58 ?_ | refine v_iadd hz dX6_take_58 ?_
          refine v_putI hz fX6_15 (by assumption) dX6_take_59 ?_
          exact v_vret hz hr dX6_take_62 (by first | exact (if_pos ⟨by omega, by omega⟩).symm | exact ((if_neg (by omega)).trans (if_pos ⟨c27, by omega⟩)).symm | exact ((if_neg (by omega)).trans (if_neg (by omega))).symm)
    · refine v_aload_n hz dX6_take_12 rfl ?_
      refine v_iload_n hz dX6_take_13 rfl ?_
      refine v_bi (v := nI 48) hz dX6_take_14 (by decide) ?_
      refine v_isubN hz (by omega) dX6_take_16 ?_
      refine v_putI hz fX6_19 (by assumption) dX6_take_17 ?_
      refine v_goto hz 62 dX6_take_20 (by decide) ?_
      exact v_vret hz hr dX6_take_62 (by first | exact (if_pos ⟨by omega, by omega⟩).symm | exact ((if_neg (by omega)).trans (if_pos ⟨c27, by omega⟩)).symm | exact ((if_neg (by omega)).trans (if_neg (by omega))).symm)
set_option maxHeartbeats 4000000 in
set_option maxRecDepth 100000 in
theorem cX6_tell_ok (l : Launch) (g : Gz) (κ : Kz) (I : Iz) (R : Rz) (J : Jz) (A : Nat → Nat) (b : Nat) (hs : LSg κ R A b) (L D v : Nat) (T : Nat → Nat) (h1 : csn I A b L D T) (hv : v < 14) : Ct l mX6_tell 0 0 g [.ref (A b), .int (nI v)] κ I R J (Si κ R J (fun r I1 => r = (if v = 0 then nI L else if v = 1 then nI D else if v - 2 < L then nI (T (v - 2)) else -1) ∧ I1 = I)) := by
  refine ct_of (by decide) (Nat.le_of_ble_eq_true rfl) ?_
  intro z hz hr hrc hrs
  have hz : Am z cX6_tell RX6 2 1 := hz
  have hr : Rt z yX6_tell (some .int) 0 0 _ := hr
  show V z 2 0 0 0 [(0, .ref (A b)), (1, .int (nI v))] [] κ I R J
  obtain ⟨hk, hR0, hK1, hN1, ho, ho1⟩ := hs
  have hne : A b ≠ A (b + 1) := tag_ne ho ho1 (by omega)
  obtain ⟨hL, e1, e2, hD, hT⟩ := h1
  refine v_iload_n hz dX6_tell_0 rfl ?_
  first | with_reducible refine v_if_neB hz 9 dX6_tell_1 (by decide) (fun c1 => ?_) (fun c1 => ?_) | with_reducible refine v_if_neN hz 9 (by omega) dX6_tell_1 (by decide) (fun c1 => ?_) (fun c1 => ?_) | refine v_if_ne hz 9 dX6_tell_1 (by decide) (fun c1 => ?_) (fun c1 => ?_)
  · refine v_iload_n hz dX6_tell_9 rfl ?_
    refine v_ic (v := nI 1) hz dX6_tell_10 (by decide) ?_
    first | with_reducible refine v_icmp_neN hz 19 (by omega) (by omega) dX6_tell_11 (by decide) (fun c11 => ?_) (fun c11 => ?_) | refine v_icmp_ne hz 19 dX6_tell_11 (by decide) (fun c11 => ?_) (fun c11 => ?_)
    · refine v_iload_n hz dX6_tell_19 rfl ?_
      refine v_ic (v := nI 2) hz dX6_tell_20 (by decide) ?_
      refine v_isubN hz (by omega) dX6_tell_21 ?_
      refine v_aload_n hz dX6_tell_22 rfl ?_
      refine v_getI hz fX6_15 (by assumption) dX6_tell_23 ?_
      refine v_top e1 ?_
      refine v_callSi hz lX6_30 (cX7_isWithin_ok _ _ _ _ _ _ _ _) rfl rfl (Nat.le_of_ble_eq_true rfl) (by decide) ⟨Nat.zero_le _, Nat.zero_le _⟩ dX6_tell_26 (fun r I1 h26 => ?_)
      obtain ⟨rfl, rfl⟩ := h26
      refine v_top (within_N (by omega) (by omega)) ?_
      first | with_reducible refine v_if_eqB hz 43 dX6_tell_29 (by decide) (fun c29 => ?_) (fun c29 => ?_) | with_reducible refine v_if_eqN hz 43 (by omega) dX6_tell_29 (by decide) (fun c29 => ?_) (fun c29 => ?_) | refine v_if_eq hz 43 dX6_tell_29 (by decide) (fun c29 => ?_) (fun c29 => ?_)
      · refine v_ic (v := (-1)) hz dX6_tell_43 (by decide) ?_
        exact v_iret hz hr dX6_tell_44 ⟨by first
              | rw [if_pos (show v = 0 by omega)]
              | rw [if_neg (show ¬ v = 0 by omega), if_pos (show v = 1 by omega)]
              | rw [if_neg (show ¬ v = 0 by omega), if_neg (show ¬ v = 1 by omega), if_pos c29]
              | rw [if_neg (show ¬ v = 0 by omega), if_neg (show ¬ v = 1 by omega), if_neg c29], rfl⟩
      · refine v_aload_n hz dX6_tell_32 rfl ?_
        refine v_getR hz fX6_9 (by assumption) (by assumption) dX6_tell_33 ?_
        refine v_iload_n hz dX6_tell_36 rfl ?_
        refine v_ic (v := nI 2) hz dX6_tell_37 (by decide) ?_
        refine v_isubN hz (by omega) dX6_tell_38 ?_
        refine v_ialdN hz (by assumption) (by assumption) (by omega) (by decide) dX6_tell_39 ?_
        refine v_top (hT (v - 2) c29).1 ?_
        refine v_goto hz 44 dX6_tell_40 (by decide) ?_
        exact v_iret hz hr dX6_tell_44 ⟨by first
              | rw [if_pos (show v = 0 by omega)]
              | rw [if_neg (show ¬ v = 0 by omega), if_pos (show v = 1 by omega)]
              | rw [if_neg (show ¬ v = 0 by omega), if_neg (show ¬ v = 1 by omega), if_pos c29]
              | rw [if_neg (show ¬ v = 0 by omega), if_neg (show ¬ v = 1 by omega), if_neg c29], rfl⟩
    · refine v_aload_n hz dX6_tell_14 rfl ?_
      refine v_getI hz fX6_19 (by assumption) dX6_tell_15 ?_
      refine v_top e2 ?_
      exact v_iret hz hr dX6_tell_18 ⟨by first
            | rw [if_pos (show v = 0 by omega)]
            | rw [if_neg (show ¬ v = 0 by omega), if_pos (show v = 1 by omega)]
            | rw [if_neg (show ¬ v = 0 by omega), if_neg (show ¬ v = 1 by omega), if_pos c29]
            | rw [if_neg (show ¬ v = 0 by omega), if_neg (show ¬ v = 1 by omega), if_neg c29], rfl⟩
  · refine v_aload_n hz dX6_tell_4 rfl ?_
    refine v_getI hz fX6_15 (by assumption) dX6_tell_5 ?_
    refine v_top e1 ?_
    exact v_iret hz hr dX6_tell_8 ⟨by first
          | rw [if_pos (show v = 0 by omega)]
          | rw [if_neg (show ¬ v = 0 by omega), if_pos (show v = 1 by omega)]
          | rw [if_neg (show ¬ v = 0 by omega), if_neg (show ¬ v = 1 by omega), if_pos c29]
          | rw [if_neg (show ¬ v = 0 by omega), if_neg (show ¬ v = 1 by omega), if_neg c29], rfl⟩
set_option maxHeartbeats 4000000 in
set_option maxRecDepth 100000 in
theorem lp_X6_isSameAs {z : Zz} {κ : Kz} {I : Iz} {R : Rz} {J : Jz} {A : Nat → Nat} (hz : Am z cX6_isSameAs RX6 3 0) {b b2 L1 L2 D1 D2 : Nat} {T1 T2 : Nat → Nat} (hs : LSg κ R A b) (hs2 : LSg κ R A b2) (h1 : csn I A b L1 D1 T1) (h2 : csn I A b2 L2 D2 T2) (hL : L1 = L2) (hD : D1 = D2) (hr : Rt z yX6_isSameAs (some .boolean) 0 0 (Si κ R J (fun r I1 => r = bz (L1 = L2 ∧ D1 = D2 ∧ ∀ j, j < L1 → T1 j = T2 j) ∧ I1 = I))) :
    ∀ n j : Nat, j ≤ L1 → L1 + 1 ≤ j + n → (∀ i, i < j → T1 i = T2 i) → V z 3 0 0 26 [(0, .ref (A b)), (1, .ref (A b2)), (2, .int (nI j))] [] κ I R J := by
  obtain ⟨hk, hR0, hK1, hN1, ho, ho1⟩ := hs
  obtain ⟨hk2, hR02, hK12, hN12, ho2, ho12⟩ := hs2
  obtain ⟨hLL, e1, e2, hDD, hT⟩ := h1
  obtain ⟨hLL2, e12, e22, hDD2, hT2⟩ := h2
  intro n
  induction n with
  | zero => intro j hj hn; exact absurd hn (by omega)
  | succ n ih =>
  intro j hj hn hsame
  refine v_iload_n hz dX6_isSameAs_26 rfl ?_
  refine v_aload_n hz dX6_isSameAs_27 rfl ?_
  refine v_getI hz fX6_15 (by assumption) dX6_isSameAs_28 ?_
  refine v_top e1 ?_
  first | with_reducible refine v_icmp_geN hz 57 (by omega) (by omega) dX6_isSameAs_31 (by decide) (fun c31 => ?_) (fun c31 => ?_) | refine v_icmp_ge hz 57 dX6_isSameAs_31 (by decide) (fun c31 => ?_) (fun c31 => ?_)
  · refine v_ic (v := nI 1) hz dX6_isSameAs_57 (by decide) ?_
    exact v_zret hz hr dX6_isSameAs_58 (by first | exact Or.inl rfl | exact Or.inr rfl | exact bz_01) ⟨(bz_t ⟨hL, hD, fun i hi => hsame i (by omega)⟩).symm, rfl⟩
  · refine v_aload_n hz dX6_isSameAs_34 rfl ?_
    refine v_getR hz fX6_9 (by assumption) (by assumption) dX6_isSameAs_35 ?_
    refine v_iload_n hz dX6_isSameAs_38 rfl ?_
    refine v_ialdN hz (by assumption) (by assumption) (by omega) (by decide) dX6_isSameAs_39 ?_
    refine v_top (hT j (by omega)).1 ?_
    have x1 := (hT j (by omega)).2
    refine v_aload_n hz dX6_isSameAs_40 rfl ?_
    refine v_getR hz fX6_9 (by assumption) (by assumption) dX6_isSameAs_41 ?_
    refine v_iload_n hz dX6_isSameAs_44 rfl ?_
    refine v_ialdN hz (by assumption) (by assumption) (by omega) (by decide) dX6_isSameAs_45 ?_
    refine v_top (hT2 j (by omega)).1 ?_
    have x2 := (hT2 j (by omega)).2
    first | with_reducible refine v_icmp_eqN hz 51 (by omega) (by omega) dX6_isSameAs_46 (by decide) (fun c46 => ?_) (fun c46 => ?_) | refine v_icmp_eq hz 51 dX6_isSameAs_46 (by decide) (fun c46 => ?_) (fun c46 => ?_)
    · first | refine v_iincN hz 1 dX6_isSameAs_51 (by decide) rfl (by decide) rfl ?_ | refine v_iinc hz dX6_isSameAs_51 rfl (by decide) rfl ?_
      refine v_goto hz 26 dX6_isSameAs_54 (by decide) ?_
      exact v_sub (ih (j + 1) (by omega) (by omega) (fun i hi => by rcases Nat.lt_succ_iff_lt_or_eq.mp hi with e | e; exact hsame i e; rw [e]; exact c46)) ⟨rfl, rfl, rfl, trivial⟩
    · refine v_ic (v := nI 0) hz dX6_isSameAs_49 (by decide) ?_
      exact v_zret hz hr dX6_isSameAs_50 (by first | exact Or.inl rfl | exact Or.inr rfl | exact bz_01) ⟨(bz_f (fun q => c46 (q.2.2 j (by omega)))).symm, rfl⟩
set_option maxHeartbeats 4000000 in
set_option maxRecDepth 100000 in
theorem cX6_isSameAs_ok (l : Launch) (g : Gz) (κ : Kz) (I : Iz) (R : Rz) (J : Jz) (A : Nat → Nat) (b b2 : Nat) (hs : LSg κ R A b) (hs2 : LSg κ R A b2) (L1 L2 D1 D2 : Nat) (T1 T2 : Nat → Nat) (h1 : csn I A b L1 D1 T1) (h2 : csn I A b2 L2 D2 T2) : Ct l mX6_isSameAs 0 0 g [.ref (A b), .ref (A b2)] κ I R J (Si κ R J (fun r I1 => r = bz (L1 = L2 ∧ D1 = D2 ∧ ∀ j, j < L1 → T1 j = T2 j) ∧ I1 = I)) := by
  refine ct_of (by decide) (Nat.le_of_ble_eq_true rfl) ?_
  intro z hz hr hrc hrs
  have hz : Am z cX6_isSameAs RX6 3 0 := hz
  have hr : Rt z yX6_isSameAs (some .boolean) 0 0 _ := hr
  show V z 3 0 0 0 [(0, .ref (A b)), (1, .ref (A b2))] [] κ I R J
  have hk := hs.1
  have hk2 := hs2.1
  have e1 := h1.2.1
  have e12 := h2.2.1
  have e2 := h1.2.2.1
  have e22 := h2.2.2.1
  have b1 := h1.1
  have b2 := h2.1
  have b3 := h1.2.2.2.1
  have b4 := h2.2.2.2.1
  refine v_aload_n hz dX6_isSameAs_0 rfl ?_
  refine v_getI hz fX6_15 (by assumption) dX6_isSameAs_1 ?_
  refine v_top e1 ?_
  refine v_aload_n hz dX6_isSameAs_4 rfl ?_
  refine v_getI hz fX6_15 (by assumption) dX6_isSameAs_5 ?_
  refine v_top e12 ?_
  first | with_reducible refine v_icmp_neN hz 22 (by omega) (by omega) dX6_isSameAs_8 (by decide) (fun c8 => ?_) (fun c8 => ?_) | refine v_icmp_ne hz 22 dX6_isSameAs_8 (by decide) (fun c8 => ?_) (fun c8 => ?_)
  · refine v_ic (v := nI 0) hz dX6_isSameAs_22 (by decide) ?_
    exact v_zret hz hr dX6_isSameAs_23 (by first | exact Or.inl rfl | exact Or.inr rfl | exact bz_01) ⟨(bz_f (fun q => by have := q.1; have := q.2.1; omega)).symm, rfl⟩
  · refine v_aload_n hz dX6_isSameAs_11 rfl ?_
    refine v_getI hz fX6_19 (by assumption) dX6_isSameAs_12 ?_
    refine v_top e2 ?_
    refine v_aload_n hz dX6_isSameAs_15 rfl ?_
    refine v_getI hz fX6_19 (by assumption) dX6_isSameAs_16 ?_
    refine v_top e22 ?_
    first | with_reducible refine v_icmp_eqN hz 24 (by omega) (by omega) dX6_isSameAs_19 (by decide) (fun c19 => ?_) (fun c19 => ?_) | refine v_icmp_eq hz 24 dX6_isSameAs_19 (by decide) (fun c19 => ?_) (fun c19 => ?_)
    · refine v_ic (v := nI 0) hz dX6_isSameAs_24 (by decide) ?_
      refine v_istore_n hz dX6_isSameAs_25 (by decide) rfl ?_
      exact v_sub (lp_X6_isSameAs hz hs hs2 h1 h2 (by omega) (by omega) hr (L1 + 1) 0 (by omega) (by omega) (fun i hi => absurd hi (by omega))) ⟨rfl, rfl, rfl, trivial⟩
    · refine v_ic (v := nI 0) hz dX6_isSameAs_22 (by decide) ?_
      exact v_zret hz hr dX6_isSameAs_23 (by first | exact Or.inl rfl | exact Or.inr rfl | exact bz_01) ⟨(bz_f (fun q => by have := q.1; have := q.2.1; omega)).symm, rfl⟩
