/-! ===== the static helpers of both classes ===== -/
theorem i32_le {x y : Int32} : x ≤ y ↔ x.toInt ≤ y.toInt := Int32.le_iff_toInt_le
theorem i32_lt {x y : Int32} : x < y ↔ x.toInt < y.toInt := Int32.lt_iff_toInt_lt
set_option maxHeartbeats 4000000 in
set_option maxRecDepth 100000 in
theorem cX7_isWithin_ok (l : Launch) (g : Gz) (κ : Kz) (I : Iz) (R : Rz) (J : Jz) (x y : Int32) : Ct l mX7_isWithin 0 0 g [.int x, .int y] κ I R J (Si κ R J (fun r I1 => r = bz (0 ≤ x ∧ x < y) ∧ I1 = I)) := by
  refine ct_of (by decide) (Nat.le_of_ble_eq_true rfl) ?_
  intro z hz hr hrc hrs
  have hz : Am z cX7_isWithin RX7 2 0 := hz
  have hr : Rt z yX7_isWithin (some .boolean) 0 0 _ := hr
  show V z 2 0 0 0 [(0, .int x), (1, .int y)] [] κ I R J
  refine v_iload_n hz dX7_isWithin_0 rfl ?_
  refine v_if_lt hz 13 dX7_isWithin_1 (by decide) (fun c1 => ?_) (fun c1 => ?_)
  · refine v_ic (v := nI 0) hz dX7_isWithin_13 (by decide) ?_
    exact v_zret hz hr dX7_isWithin_14 (by first | exact Or.inl rfl | exact Or.inr rfl | exact bz_01) ⟨(by first | exact (bz_t (by simp only [i32_le, i32_lt] at *; omega)).symm | exact (bz_f (by simp only [i32_le, i32_lt] at *; omega)).symm), rfl⟩
  · refine v_iload_n hz dX7_isWithin_4 rfl ?_
    refine v_iload_n hz dX7_isWithin_5 rfl ?_
    first | with_reducible refine v_icmp_geN hz 13 (by omega) (by omega) dX7_isWithin_6 (by decide) (fun c6 => ?_) (fun c6 => ?_) | refine v_icmp_ge hz 13 dX7_isWithin_6 (by decide) (fun c6 => ?_) (fun c6 => ?_)
    · refine v_ic (v := nI 0) hz dX7_isWithin_13 (by decide) ?_
      exact v_zret hz hr dX7_isWithin_14 (by first | exact Or.inl rfl | exact Or.inr rfl | exact bz_01) ⟨(by first | exact (bz_t (by simp only [i32_le, i32_lt] at *; omega)).symm | exact (bz_f (by simp only [i32_le, i32_lt] at *; omega)).symm), rfl⟩
    · refine v_ic (v := nI 1) hz dX7_isWithin_9 (by decide) ?_
      refine v_goto hz 14 dX7_isWithin_10 (by decide) ?_
      exact v_zret hz hr dX7_isWithin_14 (by first | exact Or.inl rfl | exact Or.inr rfl | exact bz_01) ⟨(by first | exact (bz_t (by simp only [i32_le, i32_lt] at *; omega)).symm | exact (bz_f (by simp only [i32_le, i32_lt] at *; omega)).symm), rfl⟩
set_option maxHeartbeats 4000000 in
set_option maxRecDepth 100000 in
theorem cX7_isSmallLetter_ok (l : Launch) (g : Gz) (κ : Kz) (I : Iz) (R : Rz) (J : Jz) (x : Int32) : Ct l mX7_isSmallLetter 0 0 g [.int x] κ I R J (Si κ R J (fun r I1 => r = bz (nI 97 ≤ x ∧ x ≤ nI 122) ∧ I1 = I)) := by
  refine ct_of (by decide) (Nat.le_of_ble_eq_true rfl) ?_
  intro z hz hr hrc hrs
  have hz : Am z cX7_isSmallLetter RX7 1 0 := hz
  have hr : Rt z yX7_isSmallLetter (some .boolean) 0 0 _ := hr
  show V z 1 0 0 0 [(0, .int x)] [] κ I R J
  refine v_iload_n hz dX7_isSmallLetter_0 rfl ?_
  refine v_bi (v := nI 97) hz dX7_isSmallLetter_1 (by decide) ?_
  first | with_reducible refine v_icmp_ltN hz 16 (by omega) (by omega) dX7_isSmallLetter_3 (by decide) (fun c3 => ?_) (fun c3 => ?_) | refine v_icmp_lt hz 16 dX7_isSmallLetter_3 (by decide) (fun c3 => ?_) (fun c3 => ?_)
  · refine v_ic (v := nI 0) hz dX7_isSmallLetter_16 (by decide) ?_
    exact v_zret hz hr dX7_isSmallLetter_17 (by first | exact Or.inl rfl | exact Or.inr rfl | exact bz_01) ⟨(by first | exact (bz_t (by simp only [i32_le, i32_lt] at *; omega)).symm | exact (bz_f (by simp only [i32_le, i32_lt] at *; omega)).symm), rfl⟩
  · refine v_iload_n hz dX7_isSmallLetter_6 rfl ?_
    refine v_bi (v := nI 122) hz dX7_isSmallLetter_7 (by decide) ?_
    first | with_reducible refine v_icmp_gtN hz 16 (by omega) (by omega) dX7_isSmallLetter_9 (by decide) (fun c9 => ?_) (fun c9 => ?_) | refine v_icmp_gt hz 16 dX7_isSmallLetter_9 (by decide) (fun c9 => ?_) (fun c9 => ?_)
    · refine v_ic (v := nI 0) hz dX7_isSmallLetter_16 (by decide) ?_
      exact v_zret hz hr dX7_isSmallLetter_17 (by first | exact Or.inl rfl | exact Or.inr rfl | exact bz_01) ⟨(by first | exact (bz_t (by simp only [i32_le, i32_lt] at *; omega)).symm | exact (bz_f (by simp only [i32_le, i32_lt] at *; omega)).symm), rfl⟩
    · refine v_ic (v := nI 1) hz dX7_isSmallLetter_12 (by decide) ?_
      refine v_goto hz 17 dX7_isSmallLetter_13 (by decide) ?_
      exact v_zret hz hr dX7_isSmallLetter_17 (by first | exact Or.inl rfl | exact Or.inr rfl | exact bz_01) ⟨(by first | exact (bz_t (by simp only [i32_le, i32_lt] at *; omega)).symm | exact (bz_f (by simp only [i32_le, i32_lt] at *; omega)).symm), rfl⟩
set_option maxHeartbeats 4000000 in
set_option maxRecDepth 100000 in
theorem cX7_letterNumber_ok (l : Launch) (g : Gz) (κ : Kz) (I : Iz) (R : Rz) (J : Jz) (x : Int32) : Ct l mX7_letterNumber 0 0 g [.int x] κ I R J (Si κ R J (fun r I1 => r = x - nI 97 + nI 1 ∧ I1 = I)) := by
  refine ct_of (by decide) (Nat.le_of_ble_eq_true rfl) ?_
  intro z hz hr hrc hrs
  have hz : Am z cX7_letterNumber RX7 1 0 := hz
  have hr : Rt z yX7_letterNumber (some .int) 0 0 _ := hr
  show V z 1 0 0 0 [(0, .int x)] [] κ I R J
  refine v_iload_n hz dX7_letterNumber_0 rfl ?_
  refine v_bi (v := nI 97) hz dX7_letterNumber_1 (by decide) ?_
  first | with_reducible refine v_isubN hz (by omega) dX7_letterNumber_3 ?_ | refine v_isub hz dX7_letterNumber_3 ?_
  refine v_ic (v := nI 1) hz dX7_letterNumber_4 (by decide) ?_
  first | with_reducible refine v_iaddN hz dX7_letterNumber_5 ?_ | refine v_iadd hz dX7_letterNumber_5 ?_
  exact v_iret hz hr dX7_letterNumber_6 ⟨rfl, rfl⟩
set_option maxHeartbeats 4000000 in
set_option maxRecDepth 100000 in
theorem cX7_gramNumber_ok (l : Launch) (g : Gz) (κ : Kz) (I : Iz) (R : Rz) (J : Jz) (x y : Int32) : Ct l mX7_gramNumber 0 0 g [.int x, .int y] κ I R J (Si κ R J (fun r I1 => r = x * nI 27 + y ∧ I1 = I)) := by
  refine ct_of (by decide) (Nat.le_of_ble_eq_true rfl) ?_
  intro z hz hr hrc hrs
  have hz : Am z cX7_gramNumber RX7 2 0 := hz
  have hr : Rt z yX7_gramNumber (some .int) 0 0 _ := hr
  show V z 2 0 0 0 [(0, .int x), (1, .int y)] [] κ I R J
  refine v_iload_n hz dX7_gramNumber_0 rfl ?_
  refine v_bi (v := nI 27) hz dX7_gramNumber_1 (by decide) ?_
  first | with_reducible refine v_imulN hz dX7_gramNumber_3 ?_ | refine v_imul hz dX7_gramNumber_3 ?_
  refine v_iload_n hz dX7_gramNumber_4 rfl ?_
  first | with_reducible refine v_iaddN hz dX7_gramNumber_5 ?_ | refine v_iadd hz dX7_gramNumber_5 ?_
  exact v_iret hz hr dX7_gramNumber_6 ⟨rfl, rfl⟩
set_option maxHeartbeats 4000000 in
set_option maxRecDepth 100000 in
theorem cX7_mix_ok (l : Launch) (g : Gz) (κ : Kz) (I : Iz) (R : Rz) (J : Jz) (h : Int64) (x : Int32) : Ct l mX7_mix 0 0 g [.long h, .int x] κ I R J (Sl κ R J (fun r I1 => r = 31 * h + x.toInt64 ∧ I1 = I)) := by
  refine ct_of (by decide) (Nat.le_of_ble_eq_true rfl) ?_
  intro z hz hr hrc hrs
  have hz : Am z cX7_mix RX7 3 0 := hz
  have hr : Rt z yX7_mix (some .long) 0 0 _ := hr
  show V z 3 0 0 0 [(0, .long h), (2, .int x)] [] κ I R J
  refine v_ldc2 (v := 31) hz (tg_mem 680 (by decide +kernel) rfl) dX7_mix_0 ?_
  refine v_lload_n hz dX7_mix_3 rfl ?_
  refine v_lmul hz dX7_mix_4 ?_
  refine v_iload_n hz dX7_mix_5 rfl ?_
  refine v_i2l hz dX7_mix_6 ?_
  refine v_ladd hz dX7_mix_7 ?_
  exact v_lret hz hr dX7_mix_8 ⟨rfl, rfl⟩
set_option maxHeartbeats 4000000 in
set_option maxRecDepth 100000 in
theorem cX8_within_ok (l : Launch) (g : Gz) (κ : Kz) (I : Iz) (R : Rz) (J : Jz) (x a b : Int32) : Ct l mX8_within 0 0 g [.int x, .int a, .int b] κ I R J (Si κ R J (fun r I1 => r = bz (a ≤ x ∧ x ≤ b) ∧ I1 = I)) := by
  refine ct_of (by decide) (Nat.le_of_ble_eq_true rfl) ?_
  intro z hz hr hrc hrs
  have hz : Am z cX8_within RX8 3 0 := hz
  have hr : Rt z yX8_within (some .boolean) 0 0 _ := hr
  show V z 3 0 0 0 [(0, .int x), (1, .int a), (2, .int b)] [] κ I R J
  refine v_iload_n hz dX8_within_0 rfl ?_
  refine v_iload_n hz dX8_within_1 rfl ?_
  first | with_reducible refine v_icmp_ltN hz 14 (by omega) (by omega) dX8_within_2 (by decide) (fun c2 => ?_) (fun c2 => ?_) | refine v_icmp_lt hz 14 dX8_within_2 (by decide) (fun c2 => ?_) (fun c2 => ?_)
  · refine v_ic (v := nI 0) hz dX8_within_14 (by decide) ?_
    exact v_zret hz hr dX8_within_15 (by first | exact Or.inl rfl | exact Or.inr rfl | exact bz_01) ⟨(by first | exact (bz_t (by simp only [i32_le, i32_lt] at *; omega)).symm | exact (bz_f (by simp only [i32_le, i32_lt] at *; omega)).symm), rfl⟩
  · refine v_iload_n hz dX8_within_5 rfl ?_
    refine v_iload_n hz dX8_within_6 rfl ?_
    first | with_reducible refine v_icmp_gtN hz 14 (by omega) (by omega) dX8_within_7 (by decide) (fun c7 => ?_) (fun c7 => ?_) | refine v_icmp_gt hz 14 dX8_within_7 (by decide) (fun c7 => ?_) (fun c7 => ?_)
    · refine v_ic (v := nI 0) hz dX8_within_14 (by decide) ?_
      exact v_zret hz hr dX8_within_15 (by first | exact Or.inl rfl | exact Or.inr rfl | exact bz_01) ⟨(by first | exact (bz_t (by simp only [i32_le, i32_lt] at *; omega)).symm | exact (bz_f (by simp only [i32_le, i32_lt] at *; omega)).symm), rfl⟩
    · refine v_ic (v := nI 1) hz dX8_within_10 (by decide) ?_
      refine v_goto hz 15 dX8_within_11 (by decide) ?_
      exact v_zret hz hr dX8_within_15 (by first | exact Or.inl rfl | exact Or.inr rfl | exact bz_01) ⟨(by first | exact (bz_t (by simp only [i32_le, i32_lt] at *; omega)).symm | exact (bz_f (by simp only [i32_le, i32_lt] at *; omega)).symm), rfl⟩
set_option maxHeartbeats 4000000 in
set_option maxRecDepth 100000 in
theorem cX8_least_ok (l : Launch) (g : Gz) (κ : Kz) (I : Iz) (R : Rz) (J : Jz) (x y : Int32) : Ct l mX8_least 0 0 g [.int x, .int y] κ I R J (Si κ R J (fun r I1 => r = (if x < y then x else y) ∧ I1 = I)) := by
  refine ct_of (by decide) (Nat.le_of_ble_eq_true rfl) ?_
  intro z hz hr hrc hrs
  have hz : Am z cX8_least RX8 2 0 := hz
  have hr : Rt z yX8_least (some .int) 0 0 _ := hr
  show V z 2 0 0 0 [(0, .int x), (1, .int y)] [] κ I R J
  refine v_iload_n hz dX8_least_0 rfl ?_
  refine v_iload_n hz dX8_least_1 rfl ?_
  first | with_reducible refine v_icmp_geN hz 9 (by omega) (by omega) dX8_least_2 (by decide) (fun c2 => ?_) (fun c2 => ?_) | refine v_icmp_ge hz 9 dX8_least_2 (by decide) (fun c2 => ?_) (fun c2 => ?_)
  · refine v_iload_n hz dX8_least_9 rfl ?_
    exact v_iret hz hr dX8_least_10 ⟨by simp only [i32_le, i32_lt] at *; split <;> first | rfl | omega, rfl⟩
  · refine v_iload_n hz dX8_least_5 rfl ?_
    refine v_goto hz 10 dX8_least_6 (by decide) ?_
    exact v_iret hz hr dX8_least_10 ⟨by simp only [i32_le, i32_lt] at *; split <;> first | rfl | omega, rfl⟩
set_option maxHeartbeats 4000000 in
set_option maxRecDepth 100000 in
theorem cX8_gramSign_ok (l : Launch) (g : Gz) (κ : Kz) (I : Iz) (R : Rz) (J : Jz) (x : Int32) : Ct l mX8_gramSign 0 0 g [.int x] κ I R J (Si κ R J (fun r I1 => r = (if x = nI 94 then nI 0 else if x = nI 36 then nI 27 else x - nI 97 + nI 1) ∧ I1 = I)) := by
  refine ct_of (by decide) (Nat.le_of_ble_eq_true rfl) ?_
  intro z hz hr hrc hrs
  have hz : Am z cX8_gramSign RX8 1 0 := hz
  have hr : Rt z yX8_gramSign (some .int) 0 0 _ := hr
  show V z 1 0 0 0 [(0, .int x)] [] κ I R J
  refine v_iload_n hz dX8_gramSign_0 rfl ?_
  refine v_bi (v := nI 94) hz dX8_gramSign_1 (by decide) ?_
  first | with_reducible refine v_icmp_neN hz 10 (by omega) (by omega) dX8_gramSign_3 (by decide) (fun c3 => ?_) (fun c3 => ?_) | refine v_icmp_ne hz 10 dX8_gramSign_3 (by decide) (fun c3 => ?_) (fun c3 => ?_)
  · refine v_iload_n hz dX8_gramSign_10 rfl ?_
    refine v_bi (v := nI 36) hz dX8_gramSign_11 (by decide) ?_
    first | with_reducible refine v_icmp_neN hz 21 (by omega) (by omega) dX8_gramSign_13 (by decide) (fun c13 => ?_) (fun c13 => ?_) | refine v_icmp_ne hz 21 dX8_gramSign_13 (by decide) (fun c13 => ?_) (fun c13 => ?_)
    · refine v_iload_n hz dX8_gramSign_21 rfl ?_
      refine v_bi (v := nI 97) hz dX8_gramSign_22 (by decide) ?_
      first | with_reducible refine v_isubN hz (by omega) dX8_gramSign_24 ?_ | refine v_isub hz dX8_gramSign_24 ?_
      refine v_ic (v := nI 1) hz dX8_gramSign_25 (by decide) ?_
      first | with_reducible refine v_iaddN hz dX8_gramSign_26 ?_ | refine v_iadd hz dX8_gramSign_26 ?_
      exact v_iret hz hr dX8_gramSign_27 ⟨by simp_all, rfl⟩
    · refine v_bi (v := nI 27) hz dX8_gramSign_16 (by decide) ?_
      refine v_goto hz 27 dX8_gramSign_18 (by decide) ?_
      exact v_iret hz hr dX8_gramSign_27 ⟨by simp_all, rfl⟩
  · refine v_ic (v := nI 0) hz dX8_gramSign_6 (by decide) ?_
    refine v_goto hz 27 dX8_gramSign_7 (by decide) ?_
    exact v_iret hz hr dX8_gramSign_27 ⟨by simp_all, rfl⟩
set_option maxHeartbeats 4000000 in
set_option maxRecDepth 100000 in
theorem cX8_isLetter_ok (l : Launch) (g : Gz) (κ : Kz) (I : Iz) (R : Rz) (J : Jz) (x : Int32) : Ct l mX8_isLetter 0 0 g [.int x] κ I R J (Si κ R J (fun r I1 => r = bz (nI 97 ≤ x ∧ x ≤ nI 122) ∧ I1 = I)) := by
  refine ct_of (by decide) (Nat.le_of_ble_eq_true rfl) ?_
  intro z hz hr hrc hrs
  have hz : Am z cX8_isLetter RX8 1 1 := hz
  have hr : Rt z yX8_isLetter (some .boolean) 0 0 _ := hr
  show V z 1 0 0 0 [(0, .int x)] [] κ I R J
  refine v_iload_n hz dX8_isLetter_0 rfl ?_
  refine v_bi (v := nI 97) hz dX8_isLetter_1 (by decide) ?_
  refine v_bi (v := nI 122) hz dX8_isLetter_3 (by decide) ?_
  refine v_callSi hz lX8_75 (cX8_within_ok _ _ _ _ _ _ _ _ _) rfl rfl (Nat.le_of_ble_eq_true rfl) (by decide) ⟨Nat.zero_le _, Nat.zero_le _⟩ dX8_isLetter_5 (fun r I1 h5 => ?_)
  obtain ⟨rfl, rfl⟩ := h5
  exact v_zret hz hr dX8_isLetter_8 (by first | exact Or.inl rfl | exact Or.inr rfl | exact bz_01) ⟨rfl, rfl⟩
set_option maxHeartbeats 4000000 in
set_option maxRecDepth 100000 in
theorem cX8_size_ok (l : Launch) (g : Gz) (κ : Kz) (I : Iz) (R : Rz) (J : Jz) (x : Int32) : Ct l mX8_size 0 0 g [.int x] κ I R J (Si κ R J (fun r I1 => r = (if x < 0 then -x else x) ∧ I1 = I)) := by
  refine ct_of (by decide) (Nat.le_of_ble_eq_true rfl) ?_
  intro z hz hr hrc hrs
  have hz : Am z cX8_size RX8 1 0 := hz
  have hr : Rt z yX8_size (some .int) 0 0 _ := hr
  show V z 1 0 0 0 [(0, .int x)] [] κ I R J
  refine v_iload_n hz dX8_size_0 rfl ?_
  refine v_if_ge hz 9 dX8_size_1 (by decide) (fun c1 => ?_) (fun c1 => ?_)
  · refine v_iload_n hz dX8_size_9 rfl ?_
    exact v_iret hz hr dX8_size_10 ⟨by simp only [i32_le, i32_lt] at *; split <;> first | rfl | omega, rfl⟩
  · refine v_iload_n hz dX8_size_4 rfl ?_
    refine v_ineg hz dX8_size_5 ?_
    refine v_goto hz 10 dX8_size_6 (by decide) ?_
    exact v_iret hz hr dX8_size_10 ⟨by simp only [i32_le, i32_lt] at *; split <;> first | rfl | omega, rfl⟩
set_option maxHeartbeats 4000000 in
set_option maxRecDepth 100000 in
theorem cX8_bit_ok (l : Launch) (g : Gz) (κ : Kz) (I : Iz) (R : Rz) (J : Jz) (q : Prop) [Decidable q] : Ct l mX8_bit 0 0 g [.int (bz q)] κ I R J (Si κ R J (fun r I1 => r = bz q ∧ I1 = I)) := by
  refine ct_of (by decide) (Nat.le_of_ble_eq_true rfl) ?_
  intro z hz hr hrc hrs
  have hz : Am z cX8_bit RX8 1 0 := hz
  have hr : Rt z yX8_bit (some .int) 0 0 _ := hr
  show V z 1 0 0 0 [(0, .int (bz q))] [] κ I R J
  refine v_iload_n hz dX8_bit_0 rfl ?_
  first | with_reducible refine v_if_eqB hz 8 dX8_bit_1 (by decide) (fun c1 => ?_) (fun c1 => ?_) | with_reducible refine v_if_eqN hz 8 (by omega) dX8_bit_1 (by decide) (fun c1 => ?_) (fun c1 => ?_) | refine v_if_eq hz 8 dX8_bit_1 (by decide) (fun c1 => ?_) (fun c1 => ?_)
  · refine v_ic (v := nI 0) hz dX8_bit_8 (by decide) ?_
    exact v_iret hz hr dX8_bit_9 ⟨by first | exact (bz_t (by assumption)).symm | exact (bz_f (by assumption)).symm, rfl⟩
  · refine v_ic (v := nI 1) hz dX8_bit_4 (by decide) ?_
    refine v_goto hz 9 dX8_bit_5 (by decide) ?_
    exact v_iret hz hr dX8_bit_9 ⟨by first | exact (bz_t (by assumption)).symm | exact (bz_f (by assumption)).symm, rfl⟩
