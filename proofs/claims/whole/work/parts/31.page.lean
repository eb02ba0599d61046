/-! ===== the page: its object at the tag 1, its letters at 2 ===== -/
def LPg (κ : Kz) (R : Rz) (A : Nat → Nat) : Prop := κ.1 (A 1) = 4 ∧ R (A 1) 0 = some (A 2) ∧ κ.1 (A 2) = 9 ∧ κ.2.1 (A 2) = 48 ∧ κ.2.2 (A 1) = 1 ∧ κ.2.2 (A 2) = 2
/-- n letters stand on the page: pg -/
def cpg (I : Iz) (A : Nat → Nat) (n : Nat) (pg : Nat → Nat) : Prop := n ≤ 48 ∧ I (A 1) 1 = nI n ∧ ∀ i, i < n → I (A 2) i = nI (pg i) ∧ pg i ≤ 126
/-- how a letter c is taken behind the state (stage s, sign k, m letters of its word) -/
def ast (q : Nat × Nat × Nat) (c : Nat) : Option (Nat × Nat × Nat) :=
  if q.1 = 0 then (if c = 91 then some (2, q.2.1, 0) else if 97 ≤ c ∧ c ≤ 122 then some (1, q.2.1, 1) else none)
  else if q.1 = 1 then (if 97 ≤ c ∧ c ≤ 122 then (if q.2.2 < 12 then some (1, q.2.1, q.2.2 + 1) else none) else if c = 32 ∧ q.2.1 < 7 then some (0, q.2.1 + 1, 0) else none)
  else if q.1 = 2 then (if 49 ≤ c ∧ c ≤ 57 then some (3, q.2.1, 0) else none)
  else if q.1 = 3 then (if c = 93 then some (4, q.2.1, 0) else none)
  else (if c = 32 ∧ q.2.1 < 7 then some (0, q.2.1 + 1, 0) else none)
def aru (pg : Nat → Nat) : Nat → Option (Nat × Nat × Nat)
  | 0 => some (0, 0, 0)
  | n + 1 => (aru pg n).bind (fun q => ast q (pg n))
/-- the place of the first letter that can't stand there; n, if there is none -/
def isFt (pg : Nat → Nat) (n f : Nat) : Prop := f ≤ n ∧ (aru pg f).isSome = true ∧ (f < n → aru pg (f + 1) = none)
theorem aru_mono {pg : Nat → Nat} {a : Nat} (h : aru pg a = none) : ∀ d, aru pg (a + d) = none
  | 0 => h
  | d + 1 => by
    show (aru pg (a + d)).bind _ = none
    rw [aru_mono h d]
    rfl
theorem isFt.one {pg : Nat → Nat} {n f f' : Nat} (h : isFt pg n f) (h' : isFt pg n f') : f = f' := by
  obtain ⟨a1, a2, a3⟩ := h
  obtain ⟨b1, b2, b3⟩ := h'
  rcases Nat.lt_trichotomy f f' with e | e | e
  · have := aru_mono (a3 (by omega)) (f' - (f + 1))
    rw [show f + 1 + (f' - (f + 1)) = f' by omega] at this
    rw [this] at b2
    cases b2
  · exact e
  · have := aru_mono (b3 (by omega)) (f - (f' + 1))
    rw [show f' + 1 + (f - (f' + 1)) = f by omega] at this
    rw [this] at a2
    cases a2
/-- whether the page is a segment -/
def segB (pg : Nat → Nat) (n : Nat) : Bool := match aru pg n with
  | some q => q.1 == 1 || q.1 == 4
  | none => false
/-- what the page's own numbers are in such a state -/
def cst3 (I : Iz) (A : Nat → Nat) (q : Nat × Nat × Nat) : Prop := q.1 ≤ 4 ∧ q.2.1 ≤ 7 ∧ q.2.2 ≤ 12 ∧ I (A 1) 2 = nI q.1 ∧ I (A 1) 3 = nI (if q.1 = 0 then q.2.1 else q.2.1 + 1) ∧ (q.1 = 1 → I (A 1) 4 = nI q.2.2)
theorem eqc_N {a b : Nat} (ha : a < 2147483648) (hb : b < 2147483648) : bz (nI a = nI b) = bz (a = b) := by
  by_cases h : a = b
  · rw [bz_t h, bz_t (by rw [h])]
  · rw [bz_f h, bz_f (fun q => h ((nI_eq ha hb).mp q))]
set_option maxHeartbeats 4000000 in
set_option maxRecDepth 100000 in
theorem cX4_isFull_ok (l : Launch) (g : Gz) (κ : Kz) (I : Iz) (R : Rz) (J : Jz) (A : Nat → Nat) (hp : LPg κ R A) (n : Nat) (hn : n ≤ 48) (h1 : I (A 1) 1 = nI n) : Ct l mX4_isFull 0 0 g [.ref (A 1)] κ I R J (Si κ R J (fun r I1 => r = bz (48 ≤ n) ∧ I1 = I)) := by
  refine ct_of (by decide) (Nat.le_of_ble_eq_true rfl) ?_
  intro z hz hr hrc hrs
  have hz : Am z cX4_isFull RX4 1 0 := hz
  have hr : Rt z yX4_isFull (some .boolean) 0 0 _ := hr
  show V z 1 0 0 0 [(0, .ref (A 1))] [] κ I R J
  obtain ⟨hk, hR0, hK2, hN2, ho1, ho2⟩ := hp
  have hne : A 1 ≠ A 2 := tag_ne ho1 ho2 (by decide)
  refine v_aload_n hz dX4_isFull_0 rfl ?_
  refine v_getI hz fX4_15 (by assumption) dX4_isFull_1 ?_
  refine v_top h1 ?_
  refine v_aload_n hz dX4_isFull_4 rfl ?_
  refine v_getR hz fX4_9 (by assumption) (by assumption) dX4_isFull_5 ?_
  refine v_alenN hz (by omega) (by assumption) dX4_isFull_8 ?_
  first | with_reducible refine v_icmp_ltN hz 16 (by omega) (by omega) dX4_isFull_9 (by decide) (fun c9 => ?_) (fun c9 => ?_) | refine v_icmp_lt hz 16 dX4_isFull_9 (by decide) (fun c9 => ?_) (fun c9 => ?_)
  · refine v_ic (v := nI 0) hz dX4_isFull_16 (by decide) ?_
    exact v_zret hz hr dX4_isFull_17 (by first | exact Or.inl rfl | exact Or.inr rfl | exact bz_01) ⟨(by first | exact (bz_t (by omega)).symm | exact (bz_f (by omega)).symm), rfl⟩
  · refine v_ic (v := nI 1) hz dX4_isFull_12 (by decide) ?_
    refine v_goto hz 17 dX4_isFull_13 (by decide) ?_
    exact v_zret hz hr dX4_isFull_17 (by first | exact Or.inl rfl | exact Or.inr rfl | exact bz_01) ⟨(by first | exact (bz_t (by omega)).symm | exact (bz_f (by omega)).symm), rfl⟩
set_option maxHeartbeats 4000000 in
set_option maxRecDepth 100000 in
theorem cX4_append_ok (l : Launch) (g : Gz) (κ : Kz) (I : Iz) (R : Rz) (J : Jz) (A : Nat → Nat) (hp : LPg κ R A) (n : Nat) (x : Int32) (hn : n < 48) (h1 : I (A 1) 1 = nI n) : Ct l mX4_append 0 0 g [.ref (A 1), .int x] κ I R J (Sv κ R J (fun I1 => I1 = u2 (u2 I (A 2) n x) (A 1) 1 (nI (n + 1)))) := by
  refine ct_of (by decide) (Nat.le_of_ble_eq_true rfl) ?_
  intro z hz hr hrc hrs
  have hz : Am z cX4_append RX4 2 0 := hz
  have hr : Rt z yX4_append none 0 0 _ := hr
  show V z 2 0 0 0 [(0, .ref (A 1)), (1, .int x)] [] κ I R J
  obtain ⟨hk, hR0, hK2, hN2, ho1, ho2⟩ := hp
  have hne : A 1 ≠ A 2 := tag_ne ho1 ho2 (by decide)
  refine v_aload_n hz dX4_append_0 rfl ?_
  refine v_getI hz fX4_15 (by assumption) dX4_append_1 ?_
  refine v_top h1 ?_
  refine v_aload_n hz dX4_append_4 rfl ?_
  refine v_getR hz fX4_9 (by assumption) (by assumption) dX4_append_5 ?_
  refine v_alenN hz (by omega) (by assumption) dX4_append_8 ?_
  first | with_reducible refine v_icmp_geN hz 32 (by omega) (by omega) dX4_append_9 (by decide) (fun c9 => ?_) (fun c9 => ?_) | refine v_icmp_ge hz 32 dX4_append_9 (by decide) (fun c9 => ?_) (fun c9 => ?_)
  · exact absurd c9 (by omega)
  · refine v_aload_n hz dX4_append_12 rfl ?_
    refine v_getR hz fX4_9 (by assumption) (by assumption) dX4_append_13 ?_
    refine v_aload_n hz dX4_append_16 rfl ?_
    refine v_getI hz fX4_15 (by assumption) dX4_append_17 ?_
    refine v_top h1 ?_
    refine v_iload_n hz dX4_append_20 rfl ?_
    refine v_iastN hz (by assumption) (by assumption) (by omega) (by decide) dX4_append_21 ?_
    refine v_aload_n hz dX4_append_22 rfl ?_
    refine v_dup hz dX4_append_23 rfl ?_
    refine v_getI hz fX4_15 (by assumption) dX4_append_24 ?_
    refine v_top (y := nI n) (by rw [u2_ne hne]; exact h1) ?_
    refine v_ic (v := nI 1) hz dX4_append_27 (by decide) ?_
    first | with_reducible refine v_iaddN hz dX4_append_28 ?_ | refine v_iadd hz dX4_append_28 ?_
    refine v_putI hz fX4_15 (by assumption) dX4_append_29 ?_
    exact v_vret hz hr dX4_append_32 rfl
set_option maxHeartbeats 4000000 in
set_option maxRecDepth 100000 in
theorem cX4_clear_ok (l : Launch) (g : Gz) (κ : Kz) (I : Iz) (R : Rz) (J : Jz) (A : Nat → Nat) (hp : LPg κ R A)  : Ct l mX4_clear 0 0 g [.ref (A 1)] κ I R J (Sv κ R J (fun I1 => I1 = u2 I (A 1) 1 (nI 0))) := by
  refine ct_of (by decide) (Nat.le_of_ble_eq_true rfl) ?_
  intro z hz hr hrc hrs
  have hz : Am z cX4_clear RX4 1 0 := hz
  have hr : Rt z yX4_clear none 0 0 _ := hr
  show V z 1 0 0 0 [(0, .ref (A 1))] [] κ I R J
  obtain ⟨hk, hR0, hK2, hN2, ho1, ho2⟩ := hp
  have hne : A 1 ≠ A 2 := tag_ne ho1 ho2 (by decide)
  refine v_aload_n hz dX4_clear_0 rfl ?_
  refine v_ic (v := nI 0) hz dX4_clear_1 (by decide) ?_
  refine v_putI hz fX4_15 (by assumption) dX4_clear_2 ?_
  exact v_vret hz hr dX4_clear_5 rfl
set_option maxHeartbeats 4000000 in
set_option maxRecDepth 100000 in
theorem cX4_lengthensWord_ok (l : Launch) (g : Gz) (κ : Kz) (I : Iz) (R : Rz) (J : Jz) (A : Nat → Nat) (hp : LPg κ R A) (m : Nat) (hm12 : m ≤ 12) (h1 : I (A 1) 4 = nI m) : Ct l mX4_lengthensWord 0 0 g [.ref (A 1)] κ I R J (Si κ R J (fun r I1 => r = bz (m < 12) ∧ I1 = u2 I (A 1) 4 (nI (m + 1)))) := by
  refine ct_of (by decide) (Nat.le_of_ble_eq_true rfl) ?_
  intro z hz hr hrc hrs
  have hz : Am z cX4_lengthensWord RX4 1 0 := hz
  have hr : Rt z yX4_lengthensWord (some .boolean) 0 0 _ := hr
  show V z 1 0 0 0 [(0, .ref (A 1))] [] κ I R J
  obtain ⟨hk, hR0, hK2, hN2, ho1, ho2⟩ := hp
  have hne : A 1 ≠ A 2 := tag_ne ho1 ho2 (by decide)
  refine v_aload_n hz dX4_lengthensWord_0 rfl ?_
  refine v_dup hz dX4_lengthensWord_1 rfl ?_
  refine v_getI hz fX4_25 (by assumption) dX4_lengthensWord_2 ?_
  refine v_top h1 ?_
  refine v_ic (v := nI 1) hz dX4_lengthensWord_5 (by decide) ?_
  first | with_reducible refine v_iaddN hz dX4_lengthensWord_6 ?_ | refine v_iadd hz dX4_lengthensWord_6 ?_
  refine v_putI hz fX4_25 (by assumption) dX4_lengthensWord_7 ?_
  refine v_aload_n hz dX4_lengthensWord_10 rfl ?_
  refine v_getI hz fX4_25 (by assumption) dX4_lengthensWord_11 ?_
  refine v_top u2_eq ?_
  refine v_bi (v := nI 12) hz dX4_lengthensWord_14 (by decide) ?_
  first | with_reducible refine v_icmp_gtN hz 23 (by omega) (by omega) dX4_lengthensWord_16 (by decide) (fun c16 => ?_) (fun c16 => ?_) | refine v_icmp_gt hz 23 dX4_lengthensWord_16 (by decide) (fun c16 => ?_) (fun c16 => ?_)
  · refine v_ic (v := nI 0) hz dX4_lengthensWord_23 (by decide) ?_
    exact v_zret hz hr dX4_lengthensWord_24 (by first | exact Or.inl rfl | exact Or.inr rfl | exact bz_01) ⟨(by first | exact (bz_t (by omega)).symm | exact (bz_f (by omega)).symm), rfl⟩
  · refine v_ic (v := nI 1) hz dX4_lengthensWord_19 (by decide) ?_
    refine v_goto hz 24 dX4_lengthensWord_20 (by decide) ?_
    exact v_zret hz hr dX4_lengthensWord_24 (by first | exact Or.inl rfl | exact Or.inr rfl | exact bz_01) ⟨(by first | exact (bz_t (by omega)).symm | exact (bz_f (by omega)).symm), rfl⟩
set_option maxHeartbeats 4000000 in
set_option maxRecDepth 100000 in
theorem cX4_endsSign_ok (l : Launch) (g : Gz) (κ : Kz) (I : Iz) (R : Rz) (J : Jz) (A : Nat → Nat) (hp : LPg κ R A) (c sb : Nat) (hc : c ≤ 126) (hsb : sb ≤ 8) (h1 : I (A 1) 3 = nI sb) : Ct l mX4_endsSign 0 0 g [.ref (A 1), .int (nI c)] κ I R J (Si κ R J (fun r I1 => r = bz (c = 32 ∧ sb < 8) ∧ I1 = u2 I (A 1) 2 (nI 0))) := by
  refine ct_of (by decide) (Nat.le_of_ble_eq_true rfl) ?_
  intro z hz hr hrc hrs
  have hz : Am z cX4_endsSign RX4 2 0 := hz
  have hr : Rt z yX4_endsSign (some .boolean) 0 0 _ := hr
  show V z 2 0 0 0 [(0, .ref (A 1)), (1, .int (nI c))] [] κ I R J
  obtain ⟨hk, hR0, hK2, hN2, ho1, ho2⟩ := hp
  have hne : A 1 ≠ A 2 := tag_ne ho1 ho2 (by decide)
  refine v_aload_n hz dX4_endsSign_0 rfl ?_
  refine v_ic (v := nI 0) hz dX4_endsSign_1 (by decide) ?_
  refine v_putI hz fX4_19 (by assumption) dX4_endsSign_2 ?_
  refine v_iload_n hz dX4_endsSign_5 rfl ?_
  refine v_bi (v := nI 32) hz dX4_endsSign_6 (by decide) ?_
  first | with_reducible refine v_icmp_neN hz 24 (by omega) (by omega) dX4_endsSign_8 (by decide) (fun c8 => ?_) (fun c8 => ?_) | refine v_icmp_ne hz 24 dX4_endsSign_8 (by decide) (fun c8 => ?_) (fun c8 => ?_)
  · refine v_ic (v := nI 0) hz dX4_endsSign_24 (by decide) ?_
    exact v_zret hz hr dX4_endsSign_25 (by first | exact Or.inl rfl | exact Or.inr rfl | exact bz_01) ⟨(by first | exact (bz_t (by omega)).symm | exact (bz_f (by omega)).symm), rfl⟩
  · refine v_aload_n hz dX4_endsSign_11 rfl ?_
    refine v_getI hz fX4_22 (by assumption) dX4_endsSign_12 ?_
    refine v_top (y := nI sb) (by rw [u2_at (by decide)]; exact h1) ?_
    refine v_bi (v := nI 8) hz dX4_endsSign_15 (by decide) ?_
    first | with_reducible refine v_icmp_geN hz 24 (by omega) (by omega) dX4_endsSign_17 (by decide) (fun c17 => ?_) (fun c17 => ?_) | refine v_icmp_ge hz 24 dX4_endsSign_17 (by decide) (fun c17 => ?_) (fun c17 => ?_)
    · refine v_ic (v := nI 0) hz dX4_endsSign_24 (by decide) ?_
      exact v_zret hz hr dX4_endsSign_25 (by first | exact Or.inl rfl | exact Or.inr rfl | exact bz_01) ⟨(by first | exact (bz_t (by omega)).symm | exact (bz_f (by omega)).symm), rfl⟩
    · refine v_ic (v := nI 1) hz dX4_endsSign_20 (by decide) ?_
      refine v_goto hz 25 dX4_endsSign_21 (by decide) ?_
      exact v_zret hz hr dX4_endsSign_25 (by first | exact Or.inl rfl | exact Or.inr rfl | exact bz_01) ⟨(by first | exact (bz_t (by omega)).symm | exact (bz_f (by omega)).symm), rfl⟩
set_option maxHeartbeats 4000000 in
set_option maxRecDepth 100000 in
theorem cX4_beginsSign_ok (l : Launch) (g : Gz) (κ : Kz) (I : Iz) (R : Rz) (J : Jz) (A : Nat → Nat) (hp : LPg κ R A) (c sb : Nat) (hc : c ≤ 126) (hsb : sb ≤ 8) (h1 : I (A 1) 3 = nI sb) : Ct l mX4_beginsSign 0 0 g [.ref (A 1), .int (nI c)] κ I R J (Si κ R J (fun r I1 => r = bz (c = 91 ∨ (97 ≤ c ∧ c ≤ 122)) ∧ I1 = u2 (u2 (u2 I (A 1) 3 (nI (sb + 1))) (A 1) 4 (nI 1)) (A 1) 2 (nI (if c = 91 then 2 else 1)))) := by
  refine ct_of (by decide) (Nat.le_of_ble_eq_true rfl) ?_
  intro z hz hr hrc hrs
  have hz : Am z cX4_beginsSign RX4 2 1 := hz
  have hr : Rt z yX4_beginsSign (some .boolean) 0 0 _ := hr
  show V z 2 0 0 0 [(0, .ref (A 1)), (1, .int (nI c))] [] κ I R J
  obtain ⟨hk, hR0, hK2, hN2, ho1, ho2⟩ := hp
  have hne : A 1 ≠ A 2 := tag_ne ho1 ho2 (by decide)
  refine v_aload_n hz dX4_beginsSign_0 rfl ?_
  refine v_dup hz dX4_beginsSign_1 rfl ?_
  refine v_getI hz fX4_22 (by assumption) dX4_beginsSign_2 ?_
  refine v_top h1 ?_
  refine v_ic (v := nI 1) hz dX4_beginsSign_5 (by decide) ?_
  first | with_reducible refine v_iaddN hz dX4_beginsSign_6 ?_ | refine v_iadd hz dX4_beginsSign_6 ?_
  refine v_putI hz fX4_22 (by assumption) dX4_beginsSign_7 ?_
  refine v_aload_n hz dX4_beginsSign_10 rfl ?_
  refine v_ic (v := nI 1) hz dX4_beginsSign_11 (by decide) ?_
  refine v_putI hz fX4_25 (by assumption) dX4_beginsSign_12 ?_
  refine v_aload_n hz dX4_beginsSign_15 rfl ?_
  refine v_iload_n hz dX4_beginsSign_16 rfl ?_
  refine v_bi (v := nI 91) hz dX4_beginsSign_17 (by decide) ?_
  first | with_reducible refine v_icmp_neN hz 26 (by omega) (by omega) dX4_beginsSign_19 (by decide) (fun c19 => ?_) (fun c19 => ?_) | refine v_icmp_ne hz 26 dX4_beginsSign_19 (by decide) (fun c19 => ?_) (fun c19 => ?_)
  · refine v_ic (v := nI 1) hz dX4_beginsSign_26 (by decide) ?_
    refine v_putI hz fX4_19 (by assumption) dX4_beginsSign_27 ?_
    refine v_iload_n hz dX4_beginsSign_30 rfl ?_
    refine v_bi (v := nI 91) hz dX4_beginsSign_31 (by decide) ?_
    first | with_reducible refine v_icmp_eqN hz 43 (by omega) (by omega) dX4_beginsSign_33 (by decide) (fun c33 => ?_) (fun c33 => ?_) | refine v_icmp_eq hz 43 dX4_beginsSign_33 (by decide) (fun c33 => ?_) (fun c33 => ?_)
    · first
      | (exfalso; omega)
      | (refine v_ic (v := nI 1) hz dX4_beginsSign_43 (by decide) ?_
         refine v_goto hz 48 dX4_beginsSign_44 (by decide) ?_
         exact v_zret hz hr dX4_beginsSign_48 (by first | exact Or.inl rfl | exact Or.inr rfl | exact bz_01) ⟨by first | exact (bz_t (by omega)).symm | exact (bz_f (by omega)).symm, by first | rw [if_pos (show c = 91 by omega)] | rw [if_neg (show ¬ c = 91 by omega)]⟩)
    · first
      | (exfalso; omega)
      | (refine v_iload_n hz dX4_beginsSign_36 rfl ?_
         refine v_callSi hz lX4_39 (cX7_isSmallLetter_ok _ _ _ _ _ _ _) rfl rfl (Nat.le_of_ble_eq_true rfl) (by decide) ⟨Nat.zero_le _, Nat.zero_le _⟩ dX4_beginsSign_37 (fun r I1 h37 => ?_)
         obtain ⟨rfl, rfl⟩ := h37
         refine v_top (small_N (by omega)) ?_
         first | with_reducible refine v_if_eqB hz 47 dX4_beginsSign_40 (by decide) (fun c40 => ?_) (fun c40 => ?_) | with_reducible refine v_if_eqN hz 47 (by omega) dX4_beginsSign_40 (by decide) (fun c40 => ?_) (fun c40 => ?_) | refine v_if_eq hz 47 dX4_beginsSign_40 (by decide) (fun c40 => ?_) (fun c40 => ?_)
         · refine v_ic (v := nI 0) hz dX4_beginsSign_47 (by decide) ?_
           exact v_zret hz hr dX4_beginsSign_48 (by first | exact Or.inl rfl | exact Or.inr rfl | exact bz_01) ⟨by first | exact (bz_t (by omega)).symm | exact (bz_f (by omega)).symm, by first | rw [if_pos (show c = 91 by omega)] | rw [if_neg (show ¬ c = 91 by omega)]⟩
         · refine v_ic (v := nI 1) hz dX4_beginsSign_43 (by decide) ?_
           refine v_goto hz 48 dX4_beginsSign_44 (by decide) ?_
           exact v_zret hz hr dX4_beginsSign_48 (by first | exact Or.inl rfl | exact Or.inr rfl | exact bz_01) ⟨by first | exact (bz_t (by omega)).symm | exact (bz_f (by omega)).symm, by first | rw [if_pos (show c = 91 by omega)] | rw [if_neg (show ¬ c = 91 by omega)]⟩)
  · refine v_ic (v := nI 2) hz dX4_beginsSign_22 (by decide) ?_
    refine v_goto hz 27 dX4_beginsSign_23 (by decide) ?_
    refine v_putI hz fX4_19 (by assumption) dX4_beginsSign_27 ?_
    refine v_iload_n hz dX4_beginsSign_30 rfl ?_
    refine v_bi (v := nI 91) hz dX4_beginsSign_31 (by decide) ?_
    first | with_reducible refine v_icmp_eqN hz 43 (by omega) (by omega) dX4_beginsSign_33 (by decide) (fun c33 => ?_) (fun c33 => ?_) | refine v_icmp_eq hz 43 dX4_beginsSign_33 (by decide) (fun c33 => ?_) (fun c33 => ?_)
    · first
      | (exfalso; omega)
      | (refine v_ic (v := nI 1) hz dX4_beginsSign_43 (by decide) ?_
         refine v_goto hz 48 dX4_beginsSign_44 (by decide) ?_
         exact v_zret hz hr dX4_beginsSign_48 (by first | exact Or.inl rfl | exact Or.inr rfl | exact bz_01) ⟨by first | exact (bz_t (by omega)).symm | exact (bz_f (by omega)).symm, by first | rw [if_pos (show c = 91 by omega)] | rw [if_neg (show ¬ c = 91 by omega)]⟩)
    · first
      | (exfalso; omega)
      | (refine v_iload_n hz dX4_beginsSign_36 rfl ?_
         refine v_callSi hz lX4_39 (cX7_isSmallLetter_ok _ _ _ _ _ _ _) rfl rfl (Nat.le_of_ble_eq_true rfl) (by decide) ⟨Nat.zero_le _, Nat.zero_le _⟩ dX4_beginsSign_37 (fun r I1 h37 => ?_)
         obtain ⟨rfl, rfl⟩ := h37
         refine v_top (small_N (by omega)) ?_
         first | with_reducible refine v_if_eqB hz 47 dX4_beginsSign_40 (by decide) (fun c40 => ?_) (fun c40 => ?_) | with_reducible refine v_if_eqN hz 47 (by omega) dX4_beginsSign_40 (by decide) (fun c40 => ?_) (fun c40 => ?_) | refine v_if_eq hz 47 dX4_beginsSign_40 (by decide) (fun c40 => ?_) (fun c40 => ?_)
         · refine v_ic (v := nI 0) hz dX4_beginsSign_47 (by decide) ?_
           exact v_zret hz hr dX4_beginsSign_48 (by first | exact Or.inl rfl | exact Or.inr rfl | exact bz_01) ⟨by first | exact (bz_t (by omega)).symm | exact (bz_f (by omega)).symm, by first | rw [if_pos (show c = 91 by omega)] | rw [if_neg (show ¬ c = 91 by omega)]⟩
         · refine v_ic (v := nI 1) hz dX4_beginsSign_43 (by decide) ?_
           refine v_goto hz 48 dX4_beginsSign_44 (by decide) ?_
           exact v_zret hz hr dX4_beginsSign_48 (by first | exact Or.inl rfl | exact Or.inr rfl | exact bz_01) ⟨by first | exact (bz_t (by omega)).symm | exact (bz_f (by omega)).symm, by first | rw [if_pos (show c = 91 by omega)] | rw [if_neg (show ¬ c = 91 by omega)]⟩)
/-- the state behind a letter: the page's numbers, the rest as it was -/
def goP (A : Nat → Nat) (q : Nat × Nat × Nat) (c : Nat) (I I1 : Iz) : Prop := (∀ b, b ≠ A 1 → I1 b = I b) ∧ I1 (A 1) 1 = I (A 1) 1 ∧ ∀ q', ast q c = some q' → cst3 I1 A q'
theorem ast_none {q : Nat × Nat × Nat} {c : Nat} (h : ast q c = none) : ¬ (ast q c).isSome = true := by rw [h]; exact fun h => by cases h
theorem bz_some {o : Option (Nat × Nat × Nat)} {r : Int32} {p : Prop} [Decidable p] (h : p ↔ o.isSome = true) (e : r = bz p) : r = bz (o.isSome = true) := by
  rw [e]
  by_cases q : p
  · rw [bz_t q, bz_t (h.mp q)]
  · rw [bz_f q, bz_f (fun r => q (h.mpr r))]
theorem go0 {A : Nat → Nat} {I : Iz} {q : Nat × Nat × Nat} {c : Nat} (hs : q.1 = 0) (h : cst3 I A q) : ((c = 91 ∨ (97 ≤ c ∧ c ≤ 122)) ↔ (ast q c).isSome = true) ∧ goP A q c I (u2 (u2 (u2 I (A 1) 3 (nI (q.2.1 + 1))) (A 1) 4 (nI 1)) (A 1) 2 (nI (if c = 91 then 2 else 1))) := by
  obtain ⟨h1, h2, h3, h4, h5, h6⟩ := h
  have ea : ast q c = if c = 91 then some (2, q.2.1, 0) else if 97 ≤ c ∧ c ≤ 122 then some (1, q.2.1, 1) else none := by
    unfold ast
    rw [if_pos hs]
  unfold goP
  rw [ea]
  have F1 : ∀ b, b ≠ A 1 → (u2 (u2 (u2 I (A 1) 3 (nI (q.2.1 + 1))) (A 1) 4 (nI 1)) (A 1) 2 (nI (if c = 91 then 2 else 1))) b = I b := fun b hb => by rw [u2_ne hb, u2_ne hb, u2_ne hb]
  have F2 : (u2 (u2 (u2 I (A 1) 3 (nI (q.2.1 + 1))) (A 1) 4 (nI 1)) (A 1) 2 (nI (if c = 91 then 2 else 1))) (A 1) 1 = I (A 1) 1 := by rw [u2_at (by decide), u2_at (by decide), u2_at (by decide)]
  have F3 : (u2 (u2 (u2 I (A 1) 3 (nI (q.2.1 + 1))) (A 1) 4 (nI 1)) (A 1) 2 (nI (if c = 91 then 2 else 1))) (A 1) 3 = nI (q.2.1 + 1) := by rw [u2_at (by decide), u2_at (by decide), u2_eq]
  have F4 : (u2 (u2 (u2 I (A 1) 3 (nI (q.2.1 + 1))) (A 1) 4 (nI 1)) (A 1) 2 (nI (if c = 91 then 2 else 1))) (A 1) 4 = nI 1 := by rw [u2_at (by decide), u2_eq]
  have F5 : (u2 (u2 (u2 I (A 1) 3 (nI (q.2.1 + 1))) (A 1) 4 (nI 1)) (A 1) 2 (nI (if c = 91 then 2 else 1))) (A 1) 2 = nI (if c = 91 then 2 else 1) := u2_eq
  refine ⟨?_, F1, F2, fun q' hq => ?_⟩
  · by_cases e : c = 91
    · simp [e]
    · by_cases e2 : 97 ≤ c ∧ c ≤ 122 <;> simp [e, e2]
  · by_cases e : c = 91
    · rw [if_pos e] at hq
      cases hq
      exact ⟨by simp, h2, by simp, by rw [F5, if_pos e], by rw [F3]; rfl, fun e => by simp at e⟩
    · by_cases e2 : 97 ≤ c ∧ c ≤ 122
      · rw [if_neg e, if_pos e2] at hq
        cases hq
        exact ⟨by simp, h2, by simp, by rw [F5, if_neg e], by rw [F3]; rfl, fun _ => F4⟩
      · rw [if_neg e, if_neg e2] at hq
        cases hq
theorem goE {A : Nat → Nat} {I : Iz} {q : Nat × Nat × Nat} {c : Nat} (hs : q.1 = 4 ∨ (q.1 = 1 ∧ ¬ (97 ≤ c ∧ c ≤ 122))) (h : cst3 I A q) : ((c = 32 ∧ q.2.1 + 1 < 8) ↔ (ast q c).isSome = true) ∧ goP A q c I (u2 I (A 1) 2 (nI 0)) := by
  obtain ⟨h1, h2, h3, h4, h5, h6⟩ := h
  have hq0 : ¬ q.1 = 0 := by omega
  have ea : ast q c = if c = 32 ∧ q.2.1 < 7 then some (0, q.2.1 + 1, 0) else none := by
    unfold ast
    rw [if_neg hq0]
    rcases hs with e | ⟨e, e2⟩
    · rw [if_neg (by omega), if_neg (by omega), if_neg (by omega)]
    · rw [if_pos e, if_neg e2]
  unfold goP cst3
  rw [ea]
  rw [if_neg hq0] at h5
  by_cases e : c = 32 ∧ q.2.1 < 7
  · rw [if_pos e]
    refine ⟨⟨fun _ => rfl, fun _ => ⟨e.1, by omega⟩⟩, fun b hb => u2_ne hb, u2_at (by decide), fun q' hq => ?_⟩
    simp only [Option.some.injEq] at hq
    subst hq
    exact ⟨by simp, by dsimp only; omega, by simp, by rw [u2_eq], by rw [u2_at (by decide), h5, if_pos rfl], fun e => by simp at e⟩
  · rw [if_neg e]
    refine ⟨⟨fun q => absurd ⟨q.1, by omega⟩ e, fun q => by cases q⟩, fun b hb => u2_ne hb, u2_at (by decide), fun q' hq => by cases hq⟩
theorem goL {A : Nat → Nat} {I : Iz} {q : Nat × Nat × Nat} {c : Nat} (hs : q.1 = 1) (hc : 97 ≤ c ∧ c ≤ 122) (h : cst3 I A q) : ((q.2.2 < 12) ↔ (ast q c).isSome = true) ∧ goP A q c I (u2 I (A 1) 4 (nI (q.2.2 + 1))) := by
  obtain ⟨h1, h2, h3, h4, h5, h6⟩ := h
  have hq0 : ¬ q.1 = 0 := by omega
  have ea : ast q c = if q.2.2 < 12 then some (1, q.2.1, q.2.2 + 1) else none := by
    unfold ast
    rw [if_neg hq0, if_pos hs, if_pos hc]
  unfold goP cst3
  rw [ea]
  rw [if_neg hq0] at h5
  by_cases e : q.2.2 < 12
  · rw [if_pos e]
    refine ⟨by simp [e], fun b hb => u2_ne hb, u2_at (by decide), fun q' hq => ?_⟩
    simp only [Option.some.injEq] at hq
    subst hq
    exact ⟨by simp, h2, by dsimp only; omega, by rw [u2_at (by decide), h4, hs], by rw [u2_at (by decide), h5]; rfl, fun _ => by rw [u2_eq]⟩
  · rw [if_neg e]
    refine ⟨by simp [e], fun b hb => u2_ne hb, u2_at (by decide), fun q' hq => by cases hq⟩
theorem goO {A : Nat → Nat} {I : Iz} {q : Nat × Nat × Nat} {c s' : Nat} {p : Prop} [Decidable p] (hq0 : ¬ q.1 = 0) (hs' : s' = 3 ∨ s' = 4) (ea : ast q c = if p then some (s', q.2.1, 0) else none) (h : cst3 I A q) : (p ↔ (ast q c).isSome = true) ∧ goP A q c I (u2 I (A 1) 2 (nI s')) := by
  obtain ⟨h1, h2, h3, h4, h5, h6⟩ := h
  unfold goP cst3
  rw [ea]
  rw [if_neg hq0] at h5
  by_cases e : p
  · rw [if_pos e]
    refine ⟨by simp [e], fun b hb => u2_ne hb, u2_at (by decide), fun q' hq => ?_⟩
    simp only [Option.some.injEq] at hq
    subst hq
    exact ⟨by dsimp only; omega, h2, by simp, by rw [u2_eq], by rw [u2_at (by decide), h5, if_neg (by dsimp only; omega)], fun e => by dsimp only at e; omega⟩
  · rw [if_neg e]
    refine ⟨by simp [e], fun b hb => u2_ne hb, u2_at (by decide), fun q' hq => by cases hq⟩
theorem ast_2 {q : Nat × Nat × Nat} {c : Nat} (hs : q.1 = 2) : ast q c = if 49 ≤ c ∧ c ≤ 57 then some (3, q.2.1, 0) else none := by
  unfold ast
  rw [if_neg (by omega), if_neg (by omega), if_pos hs]
theorem ast_3 {q : Nat × Nat × Nat} {c : Nat} (hs : q.1 = 3) : ast q c = if c = 93 then some (4, q.2.1, 0) else none := by
  unfold ast
  rw [if_neg (by omega), if_neg (by omega), if_neg (by omega), if_pos hs]
set_option maxHeartbeats 4000000 in
set_option maxRecDepth 100000 in
theorem cX4_goesOn_ok (l : Launch) (g : Gz) (κ : Kz) (I : Iz) (R : Rz) (J : Jz) (A : Nat → Nat) (hp : LPg κ R A) (q : Nat × Nat × Nat) (c : Nat) (hc : c ≤ 126) (hq : cst3 I A q) : Ct l mX4_goesOn 0 0 g [.ref (A 1), .int (nI c)] κ I R J (Si κ R J (fun r I1 => r = bz ((ast q c).isSome = true) ∧ goP A q c I I1)) := by
  refine ct_of (by decide) (Nat.le_of_ble_eq_true rfl) ?_
  intro z hz hr hrc hrs
  have hz : Am z cX4_goesOn RX4 2 2 := hz
  have hr : Rt z yX4_goesOn (some .boolean) 0 0 _ := hr
  show V z 2 0 0 0 [(0, .ref (A 1)), (1, .int (nI c))] [] κ I R J
  obtain ⟨hk, hR0, hK2, hN2, ho1, ho2⟩ := hp
  have hne : A 1 ≠ A 2 := tag_ne ho1 ho2 (by decide)
  obtain ⟨q1, q2, q3, q4, q5, q6⟩ := id hq
  refine v_aload_n hz dX4_goesOn_0 rfl ?_
  refine v_getI hz fX4_19 (by assumption) dX4_goesOn_1 ?_
  refine v_top q4 ?_
  refine v_tsw hz 0 3 [36, 42, 62, 85] 102 dX4_goesOn_4 ⟨rfl, rfl⟩ (by decide) (by decide) (by decide) (fun j4 hj1_4 hj2_4 c4 => ?_) (fun c4 => ?_)
  · rcases (show j4 = 0 ∨ j4 = 1 ∨ j4 = 2 ∨ j4 = 3 by omega) with rfl | rfl | rfl | rfl
    · refine v_pc (pc' := 36) rfl ?_
      have e0 := (nI_eq (by omega) (by decide)).mp c4
      refine v_aload_n hz dX4_goesOn_36 rfl ?_
      refine v_iload_n hz dX4_goesOn_37 rfl ?_
      refine v_callVi hz lX4_36 (cX4_beginsSign_ok _ _ _ _ _ _ A ⟨hk, hR0, hK2, hN2, ho1, ho2⟩ c q.2.1 hc (by omega) (by rw [q5, if_pos e0])) (by assumption) rfl rfl (Nat.le_of_ble_eq_true rfl) (by decide) ⟨Nat.zero_le _, Nat.zero_le _⟩ dX4_goesOn_38 (fun r I1 h38 => ?_)
      obtain ⟨rfl, rfl⟩ := h38
      exact v_zret hz hr dX4_goesOn_41 (by first | exact Or.inl rfl | exact Or.inr rfl | exact bz_01) ⟨bz_some (go0 e0 hq).1 rfl, (go0 e0 hq).2⟩
    · refine v_pc (pc' := 42) rfl ?_
      have e0 := (nI_eq (by omega) (by decide)).mp c4
      refine v_iload_n hz dX4_goesOn_42 rfl ?_
      refine v_callSi hz lX4_39 (cX7_isSmallLetter_ok _ _ _ _ _ _ _) rfl rfl (Nat.le_of_ble_eq_true rfl) (by decide) ⟨Nat.zero_le _, Nat.zero_le _⟩ dX4_goesOn_43 (fun r I1 h43 => ?_)
      obtain ⟨rfl, rfl⟩ := h43
      refine v_top (small_N (by omega)) ?_
      first | with_reducible refine v_if_eqB hz 56 dX4_goesOn_46 (by decide) (fun c46 => ?_) (fun c46 => ?_) | with_reducible refine v_if_eqN hz 56 (by omega) dX4_goesOn_46 (by decide) (fun c46 => ?_) (fun c46 => ?_) | refine v_if_eq hz 56 dX4_goesOn_46 (by decide) (fun c46 => ?_) (fun c46 => ?_)
      · refine v_aload_n hz dX4_goesOn_56 rfl ?_
        refine v_iload_n hz dX4_goesOn_57 rfl ?_
        refine v_callVi hz lX4_46 (cX4_endsSign_ok _ _ _ _ _ _ A ⟨hk, hR0, hK2, hN2, ho1, ho2⟩ c (q.2.1 + 1) hc (by omega) (by rw [q5, if_neg (by omega)])) (by assumption) rfl rfl (Nat.le_of_ble_eq_true rfl) (by decide) ⟨Nat.zero_le _, Nat.zero_le _⟩ dX4_goesOn_58 (fun r I1 h58 => ?_)
        obtain ⟨rfl, rfl⟩ := h58
        exact v_zret hz hr dX4_goesOn_61 (by first | exact Or.inl rfl | exact Or.inr rfl | exact bz_01) (by first | exact ⟨bz_some (goL e0 c46 hq).1 rfl, (goL e0 c46 hq).2⟩ | exact ⟨bz_some (goE (Or.inr ⟨e0, c46⟩) hq).1 rfl, (goE (Or.inr ⟨e0, c46⟩) hq).2⟩)
      · refine v_aload_n hz dX4_goesOn_49 rfl ?_
        refine v_callVi hz lX4_42 (cX4_lengthensWord_ok _ _ _ _ _ _ A ⟨hk, hR0, hK2, hN2, ho1, ho2⟩ q.2.2 q3 (q6 e0)) (by assumption) rfl rfl (Nat.le_of_ble_eq_true rfl) (by decide) ⟨Nat.zero_le _, Nat.zero_le _⟩ dX4_goesOn_50 (fun r I1 h50 => ?_)
        obtain ⟨rfl, rfl⟩ := h50
        refine v_goto hz 61 dX4_goesOn_53 (by decide) ?_
        exact v_zret hz hr dX4_goesOn_61 (by first | exact Or.inl rfl | exact Or.inr rfl | exact bz_01) (by first | exact ⟨bz_some (goL e0 c46 hq).1 rfl, (goL e0 c46 hq).2⟩ | exact ⟨bz_some (goE (Or.inr ⟨e0, c46⟩) hq).1 rfl, (goE (Or.inr ⟨e0, c46⟩) hq).2⟩)
    · refine v_pc (pc' := 62) rfl ?_
      have e0 := (nI_eq (by omega) (by decide)).mp c4
      refine v_aload_n hz dX4_goesOn_62 rfl ?_
      refine v_ic (v := nI 3) hz dX4_goesOn_63 (by decide) ?_
      refine v_putI hz fX4_19 (by assumption) dX4_goesOn_64 ?_
      refine v_iload_n hz dX4_goesOn_67 rfl ?_
      refine v_bi (v := nI 49) hz dX4_goesOn_68 (by decide) ?_
      first | with_reducible refine v_icmp_ltN hz 83 (by omega) (by omega) dX4_goesOn_70 (by decide) (fun c70 => ?_) (fun c70 => ?_) | refine v_icmp_lt hz 83 dX4_goesOn_70 (by decide) (fun c70 => ?_) (fun c70 => ?_)
      · refine v_ic (v := nI 0) hz dX4_goesOn_83 (by decide) ?_
        exact v_zret hz hr dX4_goesOn_84 (by first | exact Or.inl rfl | exact Or.inr rfl | exact bz_01) ⟨bz_some (goO (by omega) (Or.inl rfl) (ast_2 e0) hq).1 (by first | exact (bz_t (by omega)).symm | exact (bz_f (by omega)).symm), (goO (by omega) (Or.inl rfl) (ast_2 e0) hq).2⟩
      · refine v_iload_n hz dX4_goesOn_73 rfl ?_
        refine v_bi (v := nI 57) hz dX4_goesOn_74 (by decide) ?_
        first | with_reducible refine v_icmp_gtN hz 83 (by omega) (by omega) dX4_goesOn_76 (by decide) (fun c76 => ?_) (fun c76 => ?_) | refine v_icmp_gt hz 83 dX4_goesOn_76 (by decide) (fun c76 => ?_) (fun c76 => ?_)
        · refine v_ic (v := nI 0) hz dX4_goesOn_83 (by decide) ?_
          exact v_zret hz hr dX4_goesOn_84 (by first | exact Or.inl rfl | exact Or.inr rfl | exact bz_01) ⟨bz_some (goO (by omega) (Or.inl rfl) (ast_2 e0) hq).1 (by first | exact (bz_t (by omega)).symm | exact (bz_f (by omega)).symm), (goO (by omega) (Or.inl rfl) (ast_2 e0) hq).2⟩
        · refine v_ic (v := nI 1) hz dX4_goesOn_79 (by decide) ?_
          refine v_goto hz 84 dX4_goesOn_80 (by decide) ?_
          exact v_zret hz hr dX4_goesOn_84 (by first | exact Or.inl rfl | exact Or.inr rfl | exact bz_01) ⟨bz_some (goO (by omega) (Or.inl rfl) (ast_2 e0) hq).1 (by first | exact (bz_t (by omega)).symm | exact (bz_f (by omega)).symm), (goO (by omega) (Or.inl rfl) (ast_2 e0) hq).2⟩
    · refine v_pc (pc' := 85) rfl ?_
      have e0 := (nI_eq (by omega) (by decide)).mp c4
      refine v_aload_n hz dX4_goesOn_85 rfl ?_
      refine v_ic (v := nI 4) hz dX4_goesOn_86 (by decide) ?_
      refine v_putI hz fX4_19 (by assumption) dX4_goesOn_87 ?_
      refine v_iload_n hz dX4_goesOn_90 rfl ?_
      refine v_bi (v := nI 93) hz dX4_goesOn_91 (by decide) ?_
      first | with_reducible refine v_icmp_neN hz 100 (by omega) (by omega) dX4_goesOn_93 (by decide) (fun c93 => ?_) (fun c93 => ?_) | refine v_icmp_ne hz 100 dX4_goesOn_93 (by decide) (fun c93 => ?_) (fun c93 => ?_)
      · refine v_ic (v := nI 0) hz dX4_goesOn_100 (by decide) ?_
        exact v_zret hz hr dX4_goesOn_101 (by first | exact Or.inl rfl | exact Or.inr rfl | exact bz_01) ⟨bz_some (goO (by omega) (Or.inr rfl) (ast_3 e0) hq).1 (by first | exact (bz_t (by omega)).symm | exact (bz_f (by omega)).symm), (goO (by omega) (Or.inr rfl) (ast_3 e0) hq).2⟩
      · refine v_ic (v := nI 1) hz dX4_goesOn_96 (by decide) ?_
        refine v_goto hz 101 dX4_goesOn_97 (by decide) ?_
        exact v_zret hz hr dX4_goesOn_101 (by first | exact Or.inl rfl | exact Or.inr rfl | exact bz_01) ⟨bz_some (goO (by omega) (Or.inr rfl) (ast_3 e0) hq).1 (by first | exact (bz_t (by omega)).symm | exact (bz_f (by omega)).symm), (goO (by omega) (Or.inr rfl) (ast_3 e0) hq).2⟩
  · refine v_aload_n hz dX4_goesOn_102 rfl ?_
    refine v_iload_n hz dX4_goesOn_103 rfl ?_
    have e4 : q.1 = 4 := by
      rcases (show q.1 = 0 ∨ q.1 = 1 ∨ q.1 = 2 ∨ q.1 = 3 ∨ q.1 = 4 by omega) with e | e | e | e | e
      · exact absurd ⟨0, by omega, by omega, by rw [e]⟩ c4
      · exact absurd ⟨1, by omega, by omega, by rw [e]⟩ c4
      · exact absurd ⟨2, by omega, by omega, by rw [e]⟩ c4
      · exact absurd ⟨3, by omega, by omega, by rw [e]⟩ c4
      · exact e
    refine v_callVi hz lX4_46 (cX4_endsSign_ok _ _ _ _ _ _ A ⟨hk, hR0, hK2, hN2, ho1, ho2⟩ c (q.2.1 + 1) hc (by omega) (by rw [q5, if_neg (by omega)])) (by assumption) rfl rfl (Nat.le_of_ble_eq_true rfl) (by decide) ⟨Nat.zero_le _, Nat.zero_le _⟩ dX4_goesOn_104 (fun r I1 h104 => ?_)
    obtain ⟨rfl, rfl⟩ := h104
    exact v_zret hz hr dX4_goesOn_107 (by first | exact Or.inl rfl | exact Or.inr rfl | exact bz_01) ⟨bz_some (goE (Or.inl e4) hq).1 rfl, (goE (Or.inl e4) hq).2⟩
set_option maxHeartbeats 4000000 in
set_option maxRecDepth 100000 in
theorem lp_X4_firstFault {z : Zz} {κ : Kz} {I0 : Iz} {R : Rz} {J : Jz} {A : Nat → Nat} (hp : LPg κ R A) (hz : Am z cX4_firstFault RX4 2 3) {n : Nat} {pg : Nat → Nat} (h0 : cpg I0 A n pg) (hr : Rt z yX4_firstFault (some .int) 0 0 (Si κ R J (fun r I1 => (∀ b, b ≠ A 1 → I1 b = I0 b) ∧ I1 (A 1) 1 = I0 (A 1) 1 ∧ ∃ f, r = nI f ∧ isFt pg n f ∧ (f = n → ∃ q, aru pg n = some q ∧ cst3 I1 A q)))) :
    ∀ (m i : Nat) (I : Iz) (q : Nat × Nat × Nat), i ≤ n → n + 1 ≤ i + m → (∀ b, b ≠ A 1 → I b = I0 b) → I (A 1) 1 = I0 (A 1) 1 → aru pg i = some q → cst3 I A q → V z 2 0 0 17 [(0, .ref (A 1)), (1, .int (nI i))] [] κ I R J := by
  obtain ⟨hk, hR0, hK2, hN2, ho1, ho2⟩ := hp
  have hne : A 1 ≠ A 2 := tag_ne ho1 ho2 (by decide)
  obtain ⟨hn, hsz, hpg⟩ := h0
  intro m
  induction m with
  | zero => intro i I q hi hm9; exact absurd hm9 (by omega)
  | succ m ih =>
  intro i I q hi hm9 hF hS1 hq hc3
  have e2 : I (A 2) = I0 (A 2) := hF _ (Ne.symm hne)
  have s1 : I (A 1) 1 = nI n := by rw [hS1]; exact hsz
  refine v_iload_n hz dX4_firstFault_17 rfl ?_
  refine v_aload_n hz dX4_firstFault_18 rfl ?_
  refine v_getI hz fX4_15 (by assumption) dX4_firstFault_19 ?_
  refine v_top s1 ?_
  first | with_reducible refine v_icmp_geN hz 46 (by omega) (by omega) dX4_firstFault_22 (by decide) (fun c22 => ?_) (fun c22 => ?_) | refine v_icmp_ge hz 46 dX4_firstFault_22 (by decide) (fun c22 => ?_) (fun c22 => ?_)
  · refine v_aload_n hz dX4_firstFault_46 rfl ?_
    refine v_getI hz fX4_15 (by assumption) dX4_firstFault_47 ?_
    refine v_top s1 ?_
    exact v_iret hz hr dX4_firstFault_50 ⟨hF, hS1, n, rfl, ⟨Nat.le_refl n, by rw [← show i = n by omega, hq]; rfl, fun e => absurd e (by omega)⟩, fun _ => ⟨q, by rw [← show i = n by omega]; exact hq, hc3⟩⟩
  · refine v_aload_n hz dX4_firstFault_25 rfl ?_
    refine v_aload_n hz dX4_firstFault_26 rfl ?_
    refine v_getR hz fX4_9 (by assumption) (by assumption) dX4_firstFault_27 ?_
    refine v_iload_n hz dX4_firstFault_30 rfl ?_
    refine v_ialdN hz (by assumption) (by assumption) (by omega) (by decide) dX4_firstFault_31 ?_
    refine v_top (y := nI (pg i)) (by rw [e2]; exact (hpg i (by omega)).1) ?_
    refine v_callVi hz lX4_28 (cX4_goesOn_ok _ _ _ _ _ _ A ⟨hk, hR0, hK2, hN2, ho1, ho2⟩ q (pg i) (hpg i (by omega)).2 hc3) (by assumption) rfl rfl (Nat.le_of_ble_eq_true rfl) (by decide) ⟨Nat.zero_le _, Nat.zero_le _⟩ dX4_firstFault_32 (fun r I1 h32 => ?_)
    obtain ⟨rfl, g1, g2, g3⟩ := h32
    first | with_reducible refine v_if_neB hz 40 dX4_firstFault_35 (by decide) (fun c35 => ?_) (fun c35 => ?_) | with_reducible refine v_if_neN hz 40 (by omega) dX4_firstFault_35 (by decide) (fun c35 => ?_) (fun c35 => ?_) | refine v_if_ne hz 40 dX4_firstFault_35 (by decide) (fun c35 => ?_) (fun c35 => ?_)
    · obtain ⟨q2, hq2⟩ := Option.isSome_iff_exists.mp c35
      first | refine v_iincN hz 1 dX4_firstFault_40 (by decide) rfl (by decide) rfl ?_ | refine v_iinc hz dX4_firstFault_40 rfl (by decide) rfl ?_
      refine v_goto hz 17 dX4_firstFault_43 (by decide) ?_
      exact v_sub (ih (i + 1) _ q2 (by omega) (by omega) (fun b hb => (g1 b hb).trans (hF b hb)) (g2.trans hS1) (by show (aru pg i).bind _ = _; rw [hq]; exact hq2) (g3 q2 hq2)) ⟨rfl, rfl, trivial⟩
    · refine v_iload_n hz dX4_firstFault_38 rfl ?_
      exact v_iret hz hr dX4_firstFault_39 ⟨fun b hb => (g1 b hb).trans (hF b hb), g2.trans hS1, i, rfl, ⟨by omega, by rw [hq]; rfl, fun _ => by show (aru pg i).bind _ = none; rw [hq]; exact Option.not_isSome_iff_eq_none.mp c35⟩, fun e => absurd e (by omega)⟩
set_option maxHeartbeats 4000000 in
set_option maxRecDepth 100000 in
theorem cX4_firstFault_ok (l : Launch) (g : Gz) (κ : Kz) (I : Iz) (R : Rz) (J : Jz) (A : Nat → Nat) (hp : LPg κ R A) (n : Nat) (pg : Nat → Nat) (h0 : cpg I A n pg) : Ct l mX4_firstFault 0 0 g [.ref (A 1)] κ I R J (Si κ R J (fun r I1 => (∀ b, b ≠ A 1 → I1 b = I b) ∧ I1 (A 1) 1 = I (A 1) 1 ∧ ∃ f, r = nI f ∧ isFt pg n f ∧ (f = n → ∃ q, aru pg n = some q ∧ cst3 I1 A q))) := by
  refine ct_of (by decide) (Nat.le_of_ble_eq_true rfl) ?_
  intro z hz hr hrc hrs
  have hz : Am z cX4_firstFault RX4 2 3 := hz
  have hr : Rt z yX4_firstFault (some .int) 0 0 _ := hr
  show V z 2 0 0 0 [(0, .ref (A 1))] [] κ I R J
  obtain ⟨hk, hR0, hK2, hN2, ho1, ho2⟩ := hp
  have hne : A 1 ≠ A 2 := tag_ne ho1 ho2 (by decide)
  refine v_aload_n hz dX4_firstFault_0 rfl ?_
  refine v_ic (v := nI 0) hz dX4_firstFault_1 (by decide) ?_
  refine v_putI hz fX4_19 (by assumption) dX4_firstFault_2 ?_
  refine v_aload_n hz dX4_firstFault_5 rfl ?_
  refine v_ic (v := nI 0) hz dX4_firstFault_6 (by decide) ?_
  refine v_putI hz fX4_22 (by assumption) dX4_firstFault_7 ?_
  refine v_aload_n hz dX4_firstFault_10 rfl ?_
  refine v_ic (v := nI 0) hz dX4_firstFault_11 (by decide) ?_
  refine v_putI hz fX4_25 (by assumption) dX4_firstFault_12 ?_
  refine v_ic (v := nI 0) hz dX4_firstFault_15 (by decide) ?_
  refine v_istore_n hz dX4_firstFault_16 (by decide) rfl ?_
  exact v_sub (lp_X4_firstFault ⟨hk, hR0, hK2, hN2, ho1, ho2⟩ hz h0 hr (n + 1) 0 _ (0, 0, 0) (by omega) (by omega) (fun b hb => by rw [u2_ne hb, u2_ne hb, u2_ne hb]) (by rw [u2_at (by decide), u2_at (by decide), u2_at (by decide)]) rfl ⟨by decide, by decide, by decide, by rw [u2_at (by decide), u2_at (by decide), u2_eq], by rw [u2_at (by decide), u2_eq]; rfl, fun e => absurd e (by decide)⟩) ⟨rfl, rfl, trivial⟩
set_option maxHeartbeats 4000000 in
set_option maxRecDepth 100000 in
theorem cX4_isSegment_ok (l : Launch) (g : Gz) (κ : Kz) (I : Iz) (R : Rz) (J : Jz) (A : Nat → Nat) (hp : LPg κ R A) (n : Nat) (pg : Nat → Nat) (h0 : cpg I A n pg) : Ct l mX4_isSegment 0 0 g [.ref (A 1)] κ I R J (Si κ R J (fun r I1 => r = bz (segB pg n = true) ∧ (∀ b, b ≠ A 1 → I1 b = I b) ∧ I1 (A 1) 1 = I (A 1) 1)) := by
  refine ct_of (by decide) (Nat.le_of_ble_eq_true rfl) ?_
  intro z hz hr hrc hrs
  have hz : Am z cX4_isSegment RX4 1 4 := hz
  have hr : Rt z yX4_isSegment (some .boolean) 0 0 _ := hr
  show V z 1 0 0 0 [(0, .ref (A 1))] [] κ I R J
  obtain ⟨hk, hR0, hK2, hN2, ho1, ho2⟩ := hp
  have hne : A 1 ≠ A 2 := tag_ne ho1 ho2 (by decide)
  obtain ⟨hn, hsz, hpg⟩ := id h0
  refine v_aload_n hz dX4_isSegment_0 rfl ?_
  refine v_callVi hz lX4_32 (cX4_firstFault_ok _ _ _ _ _ _ A ⟨hk, hR0, hK2, hN2, ho1, ho2⟩ n pg h0) (by assumption) rfl rfl (Nat.le_of_ble_eq_true rfl) (by decide) ⟨Nat.zero_le _, Nat.zero_le _⟩ dX4_isSegment_1 (fun r I1 hff => ?_)
  obtain ⟨f1, f2, f, rfl, f3, f4⟩ := hff
  have f5 := f3.1
  refine v_aload_n hz dX4_isSegment_4 rfl ?_
  refine v_getI hz fX4_15 (by assumption) dX4_isSegment_5 ?_
  refine v_top (y := nI n) (by rw [f2]; exact hsz) ?_
  first | with_reducible refine v_icmp_neN hz 31 (by omega) (by omega) dX4_isSegment_8 (by decide) (fun c8 => ?_) (fun c8 => ?_) | refine v_icmp_ne hz 31 dX4_isSegment_8 (by decide) (fun c8 => ?_) (fun c8 => ?_)
  · refine v_ic (v := nI 0) hz dX4_isSegment_31 (by decide) ?_
    exact v_zret hz hr dX4_isSegment_32 (by first | exact Or.inl rfl | exact Or.inr rfl | exact bz_01) ⟨by first
          | exact (bz_t (by unfold segB; rw [hq]; simp; omega)).symm
          | exact (bz_f (by unfold segB; rw [hq]; simp; omega)).symm
          | exact (bz_f (by have := aru_mono (f3.2.2 (by omega)) (n - (f + 1)); rw [show f + 1 + (n - (f + 1)) = n by omega] at this; unfold segB; rw [this]; simp)).symm, f1, f2⟩
  · refine v_aload_n hz dX4_isSegment_11 rfl ?_
    obtain ⟨q, hq, hq1, hq2, hq3, hq4, hq5, hq6⟩ := f4 (by omega)
    refine v_getI hz fX4_19 (by assumption) dX4_isSegment_12 ?_
    refine v_top hq4 ?_
    refine v_ic (v := nI 1) hz dX4_isSegment_15 (by decide) ?_
    first | with_reducible refine v_icmp_eqN hz 27 (by omega) (by omega) dX4_isSegment_16 (by decide) (fun c16 => ?_) (fun c16 => ?_) | refine v_icmp_eq hz 27 dX4_isSegment_16 (by decide) (fun c16 => ?_) (fun c16 => ?_)
    · refine v_ic (v := nI 1) hz dX4_isSegment_27 (by decide) ?_
      refine v_goto hz 32 dX4_isSegment_28 (by decide) ?_
      exact v_zret hz hr dX4_isSegment_32 (by first | exact Or.inl rfl | exact Or.inr rfl | exact bz_01) ⟨by first
            | exact (bz_t (by unfold segB; rw [hq]; simp; omega)).symm
            | exact (bz_f (by unfold segB; rw [hq]; simp; omega)).symm
            | exact (bz_f (by have := aru_mono (f3.2.2 (by omega)) (n - (f + 1)); rw [show f + 1 + (n - (f + 1)) = n by omega] at this; unfold segB; rw [this]; simp)).symm, f1, f2⟩
    · refine v_aload_n hz dX4_isSegment_19 rfl ?_
      refine v_getI hz fX4_19 (by assumption) dX4_isSegment_20 ?_
      refine v_top hq4 ?_
      refine v_ic (v := nI 4) hz dX4_isSegment_23 (by decide) ?_
      first | with_reducible refine v_icmp_neN hz 31 (by omega) (by omega) dX4_isSegment_24 (by decide) (fun c24 => ?_) (fun c24 => ?_) | refine v_icmp_ne hz 31 dX4_isSegment_24 (by decide) (fun c24 => ?_) (fun c24 => ?_)
      · refine v_ic (v := nI 0) hz dX4_isSegment_31 (by decide) ?_
        exact v_zret hz hr dX4_isSegment_32 (by first | exact Or.inl rfl | exact Or.inr rfl | exact bz_01) ⟨by first
              | exact (bz_t (by unfold segB; rw [hq]; simp; omega)).symm
              | exact (bz_f (by unfold segB; rw [hq]; simp; omega)).symm
              | exact (bz_f (by have := aru_mono (f3.2.2 (by omega)) (n - (f + 1)); rw [show f + 1 + (n - (f + 1)) = n by omega] at this; unfold segB; rw [this]; simp)).symm, f1, f2⟩
      · refine v_ic (v := nI 1) hz dX4_isSegment_27 (by decide) ?_
        refine v_goto hz 32 dX4_isSegment_28 (by decide) ?_
        exact v_zret hz hr dX4_isSegment_32 (by first | exact Or.inl rfl | exact Or.inr rfl | exact bz_01) ⟨by first
              | exact (bz_t (by unfold segB; rw [hq]; simp; omega)).symm
              | exact (bz_f (by unfold segB; rw [hq]; simp; omega)).symm
              | exact (bz_f (by have := aru_mono (f3.2.2 (by omega)) (n - (f + 1)); rw [show f + 1 + (n - (f + 1)) = n by omega] at this; unfold segB; rw [this]; simp)).symm, f1, f2⟩
