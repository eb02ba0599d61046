/-! ===== the class: what the question finds; its comparisons at 65 + 5 i ===== -/
def LFg (κ : Kz) (R : Rz) (A : Nat → Nat) : Prop := κ.1 (A 11) = 2 ∧ κ.2.2 (A 11) = 11 ∧ (R (A 11) 0 = some (A 12) ∧ κ.1 (A 12) = 11 ∧ κ.2.1 (A 12) = 12 ∧ ∀ i, i < 12 → R (A 12) i = some (A (65 + 5 * i)) ∧ LCg κ R A (65 + 5 * i)) ∧ (R (A 11) 1 = some (A 13) ∧ κ.1 (A 13) = 9 ∧ κ.2.1 (A 13) = 12 ∧ κ.2.2 (A 13) = 13) ∧ (R (A 11) 2 = some (A 14) ∧ κ.1 (A 14) = 10 ∧ κ.2.1 (A 14) = 8 ∧ κ.2.2 (A 14) = 14)
/-- insertion of a number into a row of ranks: where it comes -/
def rin (s t : Nat → Nat) (r : Nat → Nat) (x : Nat) : Nat → Nat
  | 0 => 0
  | a + 1 => if (s x ≠ s (r a) ∧ s (r a) < s x) ∨ (s x = s (r a) ∧ t x < t (r a)) then rin s t r x a else a + 1
theorem rin_le {s t r : Nat → Nat} {x : Nat} : ∀ a, rin s t r x a ≤ a
  | 0 => Nat.le_refl _
  | a + 1 => by
    unfold rin
    split
    · have := rin_le (s := s) (t := t) (r := r) (x := x) a
      omega
    · exact Nat.le_refl _
/-- the rows' scores and tags' steps, as told -/
def cst2 (I : Iz) (A : Nat → Nat) (s t : Nat → Nat) (n : Nat) : Prop := ∀ i, i < n → I (A (65 + 5 * i)) 9 = nI (s i) ∧ s i ≤ 1000 ∧ I (A (65 + 5 * i)) 8 = nI (t i) ∧ t i ≤ 16
set_option maxHeartbeats 4000000 in
set_option maxRecDepth 100000 in
theorem lp_X2_insertMatch {z : Zz} {κ : Kz} {I0 : Iz} {R : Rz} {J : Jz} {A : Nat → Nat} (hf : LFg κ R A) (hz : Am z cX2_insertMatch RX2 3 1) {n x N : Nat} {r s t : Nat → Nat} (hn : n < 12) (hx : x < 12) (hN : N ≤ 12) (hxN : x < N) (hst : cst2 I0 A s t N) (hr0 : ∀ i, i < n → r i < N)
    (K : ∀ (I : Iz) (a : Nat), a ≤ n → (∀ c, c ≠ A 13 → I c = I0 c) → (∀ i, i < a → I (A 13) i = nI (r i)) → (∀ i, a < i → i ≤ n → I (A 13) i = nI (r (i - 1))) → a = rin s t r x n → V z 3 0 0 67 [(0, .ref (A 11)), (1, .int (nI x)), (2, .int (nI a))] [] κ I R J) :
    ∀ (a : Nat) (I : Iz), a ≤ n → (∀ c, c ≠ A 13 → I c = I0 c) → (∀ i, i < a → I (A 13) i = nI (r i)) → (∀ i, a < i → i ≤ n → I (A 13) i = nI (r (i - 1))) → rin s t r x a = rin s t r x n → V z 3 0 0 18 [(0, .ref (A 11)), (1, .int (nI x)), (2, .int (nI a))] [] κ I R J := by
  obtain ⟨hk, ho11, ⟨hR0, hK12, hN12, hrow⟩, ⟨hR1, hK13, hN13, ho13⟩, ⟨hR2, hK14, hN14, ho14⟩⟩ := id hf
  have n13 : A 11 ≠ A 13 := tag_ne ho11 ho13 (by decide)
  have n14 : A 11 ≠ A 14 := tag_ne ho11 ho14 (by decide)
  have n34 : A 13 ≠ A 14 := tag_ne ho13 ho14 (by decide)
  intro a
  induction a with
  | zero =>
    intro I ha hF hlo hhi hri
    refine v_iload_n hz dX2_insertMatch_18 rfl ?_
    refine v_if_leN hz 67 (by omega) dX2_insertMatch_19 (by decide) (fun c19 => ?_) (fun c19 => ?_)
    · exact K _ 0 (by omega) hF hlo hhi hri
    · exact absurd c19 (by omega)
  | succ a ih =>
  intro I ha hF hlo hhi hri
  have ra := hr0 a (by omega)
  have cx := (hrow x (by omega)).2
  have cr := (hrow (r a) (by omega)).2
  have ckx := cx.1
  have nx : A (65 + 5 * x) ≠ A 13 := tag_ne cx.2.1 ho13 (by omega)
  have nr : A (65 + 5 * r a) ≠ A 13 := tag_ne cr.2.1 ho13 (by omega)
  obtain ⟨sx1, sx2, sx3, sx4⟩ := hst x hxN
  obtain ⟨sr1, sr2, sr3, sr4⟩ := hst (r a) ra
  refine v_iload_n hz dX2_insertMatch_18 rfl ?_
  first | with_reducible refine v_if_leN hz 67 (by omega) dX2_insertMatch_19 (by decide) (fun c19 => ?_) (fun c19 => ?_) | refine v_if_le hz 67 dX2_insertMatch_19 (by decide) (fun c19 => ?_) (fun c19 => ?_)
  · exact absurd c19 (by omega)
  · refine v_aload_n hz dX2_insertMatch_22 rfl ?_
    refine v_getR hz fX2_11 (by assumption) (by assumption) dX2_insertMatch_23 ?_
    refine v_iload_n hz dX2_insertMatch_26 rfl ?_
    refine v_aaldN hz (by omega) (by assumption) (by omega) (by decide) (hrow x (by omega)).1 dX2_insertMatch_27 ?_
    refine v_aload_n hz dX2_insertMatch_28 rfl ?_
    refine v_getR hz fX2_11 (by assumption) (by assumption) dX2_insertMatch_29 ?_
    refine v_aload_n hz dX2_insertMatch_32 rfl ?_
    refine v_getR hz fX2_18 (by assumption) (by assumption) dX2_insertMatch_33 ?_
    refine v_iload_n hz dX2_insertMatch_36 rfl ?_
    refine v_ic (v := nI 1) hz dX2_insertMatch_37 (by decide) ?_
    refine v_isubN hz (by omega) dX2_insertMatch_38 ?_
    refine v_ialdN hz (by assumption) (by assumption) (by omega) (by decide) dX2_insertMatch_39 ?_
    refine v_top (y := nI (r a)) (hlo a (by omega)) ?_
    refine v_aaldN hz (by omega) (by assumption) (by omega) (by decide) (hrow (r a) (by omega)).1 dX2_insertMatch_40 ?_
    refine v_callVi hz lX2_61 (cX1_ranksAheadOf_ok _ _ _ _ _ _ A _ cx _ (s x) (t x) (s (r a)) (t (r a)) cr sx2 sr2 sx4 sr4 (by rw [hF _ nx]; exact sx1) (by rw [hF _ nx]; exact sx3) (by rw [hF _ nr]; exact sr1) (by rw [hF _ nr]; exact sr3)) (by assumption) rfl rfl (Nat.le_of_ble_eq_true rfl) (by decide) ⟨Nat.zero_le _, Nat.zero_le _⟩ dX2_insertMatch_41 (fun r I1 h41 => ?_)
    obtain ⟨rfl, rfl⟩ := h41
    unfold rkI
    first | with_reducible refine v_if_eqB hz 67 dX2_insertMatch_44 (by decide) (fun c44 => ?_) (fun c44 => ?_) | with_reducible refine v_if_eqN hz 67 (by omega) dX2_insertMatch_44 (by decide) (fun c44 => ?_) (fun c44 => ?_) | refine v_if_eq hz 67 dX2_insertMatch_44 (by decide) (fun c44 => ?_) (fun c44 => ?_)
    · exact v_sub (K _ (a + 1) (by omega) hF hlo hhi (by rw [← hri, rin, if_neg c44])) ⟨rfl, rfl, rfl, trivial⟩
    · refine v_aload_n hz dX2_insertMatch_47 rfl ?_
      refine v_getR hz fX2_18 (by assumption) (by assumption) dX2_insertMatch_48 ?_
      refine v_iload_n hz dX2_insertMatch_51 rfl ?_
      refine v_aload_n hz dX2_insertMatch_52 rfl ?_
      refine v_getR hz fX2_18 (by assumption) (by assumption) dX2_insertMatch_53 ?_
      refine v_iload_n hz dX2_insertMatch_56 rfl ?_
      refine v_ic (v := nI 1) hz dX2_insertMatch_57 (by decide) ?_
      refine v_isubN hz (by omega) dX2_insertMatch_58 ?_
      refine v_ialdN hz (by assumption) (by assumption) (by omega) (by decide) dX2_insertMatch_59 ?_
      refine v_top (y := nI (r a)) (hlo a (by omega)) ?_
      refine v_iastN hz (by assumption) (by assumption) (by omega) (by decide) dX2_insertMatch_60 ?_
      refine v_iincE hz dX2_insertMatch_61 rfl (pk_m1 a) (by decide) rfl ?_
      refine v_goto hz 18 dX2_insertMatch_64 (by decide) ?_
      exact v_sub (ih _ (by omega) (fun c hc => by rw [u2_ne hc]; exact hF c hc) (fun i hi => by rw [u2_at (by omega)]; exact hlo i (by omega)) (fun i h1 h2 => by
            by_cases e : i = a + 1
            · subst e; rw [u2_eq]; rfl
            · rw [u2_at e]; exact hhi i (by omega) h2) (by rw [← hri, rin, if_pos c44])) ⟨rfl, rfl, rfl, trivial⟩
set_option maxHeartbeats 4000000 in
set_option maxRecDepth 100000 in
theorem cX2_insertMatch_ok (l : Launch) (g : Gz) (κ : Kz) (I : Iz) (R : Rz) (J : Jz) (A : Nat → Nat) (hf : LFg κ R A) (n x N : Nat) (r s t : Nat → Nat) (hn : n < 12) (hx : x < 12) (hN : N ≤ 12) (hxN : x < N) (hst : cst2 I A s t N) (hr0 : ∀ i, i < n → I (A 13) i = nI (r i) ∧ r i < N) (e3 : I (A 11) 3 = nI n) : Ct l mX2_insertMatch 0 0 g [.ref (A 11), .int (nI x)] κ I R J (Sv κ R J (fun I1 => I1 (A 11) 3 = nI (n + 1) ∧ (∀ i, i < n + 1 → I1 (A 13) i = nI (ins r (rin s t r x n) x i)) ∧ (∀ a, a ≠ A 11 → a ≠ A 13 → I1 a = I a) ∧ ∀ f, f ≠ 3 → I1 (A 11) f = I (A 11) f)) := by
  refine ct_of (by decide) (Nat.le_of_ble_eq_true rfl) ?_
  intro z hz hr hrc hrs
  have hz : Am z cX2_insertMatch RX2 3 1 := hz
  have hr : Rt z yX2_insertMatch none 0 0 _ := hr
  show V z 3 0 0 0 [(0, .ref (A 11)), (1, .int (nI x))] [] κ I R J
  obtain ⟨hk, ho11, ⟨hR0, hK12, hN12, hrow⟩, ⟨hR1, hK13, hN13, ho13⟩, ⟨hR2, hK14, hN14, ho14⟩⟩ := id hf
  have n13 : A 11 ≠ A 13 := tag_ne ho11 ho13 (by decide)
  have n14 : A 11 ≠ A 14 := tag_ne ho11 ho14 (by decide)
  have n34 : A 13 ≠ A 14 := tag_ne ho13 ho14 (by decide)
  refine v_aload_n hz dX2_insertMatch_0 rfl ?_
  refine v_getI hz fX2_26 (by assumption) dX2_insertMatch_1 ?_
  refine v_top e3 ?_
  refine v_aload_n hz dX2_insertMatch_4 rfl ?_
  refine v_getR hz fX2_18 (by assumption) (by assumption) dX2_insertMatch_5 ?_
  refine v_alenN hz (by omega) (by assumption) dX2_insertMatch_8 ?_
  first | with_reducible refine v_icmp_ltN hz 13 (by omega) (by omega) dX2_insertMatch_9 (by decide) (fun c9 => ?_) (fun c9 => ?_) | refine v_icmp_lt hz 13 dX2_insertMatch_9 (by decide) (fun c9 => ?_) (fun c9 => ?_)
  · refine v_aload_n hz dX2_insertMatch_13 rfl ?_
    refine v_getI hz fX2_26 (by assumption) dX2_insertMatch_14 ?_
    refine v_top e3 ?_
    refine v_istore_n hz dX2_insertMatch_17 (by decide) rfl ?_
    refine v_sub (lp_X2_insertMatch hf hz hn hx hN hxN hst (fun i hi => (hr0 i hi).2) (fun I1 a h1 h2 h3 h4 h5 => ?_) n I (Nat.le_refl n) (fun _ _ => rfl) (fun i hi => (hr0 i hi).1) (fun i a1 a2 => absurd a1 (by omega)) rfl) ⟨rfl, rfl, rfl, trivial⟩
    refine v_aload_n hz dX2_insertMatch_67 rfl ?_
    refine v_getR hz fX2_18 (by assumption) (by assumption) dX2_insertMatch_68 ?_
    refine v_iload_n hz dX2_insertMatch_71 rfl ?_
    refine v_iload_n hz dX2_insertMatch_72 rfl ?_
    refine v_iastN hz (by assumption) (by assumption) (by omega) (by decide) dX2_insertMatch_73 ?_
    refine v_aload_n hz dX2_insertMatch_74 rfl ?_
    refine v_dup hz dX2_insertMatch_75 rfl ?_
    refine v_getI hz fX2_26 (by assumption) dX2_insertMatch_76 ?_
    refine v_top (y := nI n) (by rw [u2_ne n13, h2 _ n13]; exact e3) ?_
    refine v_ic (v := nI 1) hz dX2_insertMatch_79 (by decide) ?_
    first | with_reducible refine v_iaddN hz dX2_insertMatch_80 ?_ | refine v_iadd hz dX2_insertMatch_80 ?_
    refine v_putI hz fX2_26 (by assumption) dX2_insertMatch_81 ?_
    exact v_vret hz hr dX2_insertMatch_84 ⟨u2_eq, fun i hi => by
        rw [u2_ne (Ne.symm n13), ← h5]
        unfold ins
        by_cases q1 : i < a
        · rw [if_pos q1, u2_at (by omega)]; exact h3 i q1
        · rw [if_neg q1]
          by_cases q2 : i = a
          · rw [if_pos q2, q2, u2_eq]
          · rw [if_neg q2, u2_at q2]; exact h4 i (by omega) (by omega), fun c c1 c2 => by rw [u2_ne c1, u2_ne c2]; exact h2 c c2, fun f hf9 => by rw [u2_at hf9, u2_ne n13, h2 _ n13]⟩
  · exact absurd (show n < 12 from hn) c9
set_option maxHeartbeats 4000000 in
set_option maxRecDepth 100000 in
theorem lp_X2_countCovered {z : Zz} {κ : Kz} {I : Iz} {R : Rz} {J : Jz} {A : Nat → Nat} (hf : LFg κ R A) (hz : Am z cX2_countCovered RX2 3 0) {cv : Nat → Bool} (hcv : ∀ i, i < 8 → I (A 14) i = bz (cv i = true)) (hr : Rt z yX2_countCovered (some .int) 0 0 (Si κ R J (fun r I1 => r = nI (sm (fun i => if cv i then 1 else 0) 8) ∧ I1 = I))) :
    ∀ n i : Nat, i ≤ 8 → 9 ≤ i + n → V z 3 0 0 4 [(0, .ref (A 11)), (1, .int (nI (sm (fun i => if cv i then 1 else 0) i))), (2, .int (nI i))] [] κ I R J := by
  obtain ⟨hk, ho11, ⟨hR0, hK12, hN12, hrow⟩, ⟨hR1, hK13, hN13, ho13⟩, ⟨hR2, hK14, hN14, ho14⟩⟩ := id hf
  have n13 : A 11 ≠ A 13 := tag_ne ho11 ho13 (by decide)
  have n14 : A 11 ≠ A 14 := tag_ne ho11 ho14 (by decide)
  have n34 : A 13 ≠ A 14 := tag_ne ho13 ho14 (by decide)
  intro n
  induction n with
  | zero => intro i hi hn; exact absurd hn (by omega)
  | succ n ih =>
  intro i hi hn
  refine v_iload_n hz dX2_countCovered_4 rfl ?_
  refine v_aload_n hz dX2_countCovered_5 rfl ?_
  refine v_getR hz fX2_22 (by assumption) (by assumption) dX2_countCovered_6 ?_
  refine v_alenN hz (by omega) (by assumption) dX2_countCovered_9 ?_
  first | with_reducible refine v_icmp_geN hz 36 (by omega) (by omega) dX2_countCovered_10 (by decide) (fun c10 => ?_) (fun c10 => ?_) | refine v_icmp_ge hz 36 dX2_countCovered_10 (by decide) (fun c10 => ?_) (fun c10 => ?_)
  · refine v_iload_n hz dX2_countCovered_36 rfl ?_
    exact v_iret hz hr dX2_countCovered_37 ⟨by rw [show i = 8 by omega], rfl⟩
  · refine v_iload_n hz dX2_countCovered_13 rfl ?_
    refine v_aload_n hz dX2_countCovered_14 rfl ?_
    refine v_getR hz fX2_22 (by assumption) (by assumption) dX2_countCovered_15 ?_
    refine v_iload_n hz dX2_countCovered_18 rfl ?_
    refine v_zaldN hz (by assumption) (by assumption) (by omega) (by decide) dX2_countCovered_19 ?_
    refine v_top (hcv i (by omega)) ?_
    first | with_reducible refine v_if_eqB hz 27 dX2_countCovered_20 (by decide) (fun c20 => ?_) (fun c20 => ?_) | with_reducible refine v_if_eqN hz 27 (by omega) dX2_countCovered_20 (by decide) (fun c20 => ?_) (fun c20 => ?_) | refine v_if_eq hz 27 dX2_countCovered_20 (by decide) (fun c20 => ?_) (fun c20 => ?_)
    · refine v_ic (v := nI 0) hz dX2_countCovered_27 (by decide) ?_
      first | with_reducible refine v_iaddN hz dX2_countCovered_28 ?_ | refine v_iadd hz dX2_countCovered_28 ?_
      refine v_top (y := nI (sm (fun i => if cv i then 1 else 0) (i + 1))) (by rw [sm]; first | rw [if_pos c20] | rw [if_neg c20]) ?_
      refine v_istore_n hz dX2_countCovered_29 (by decide) rfl ?_
      first | refine v_iincN hz 1 dX2_countCovered_30 (by decide) rfl (by decide) rfl ?_ | refine v_iinc hz dX2_countCovered_30 rfl (by decide) rfl ?_
      refine v_goto hz 4 dX2_countCovered_33 (by decide) ?_
      exact v_sub (ih (i + 1) (by omega) (by omega)) ⟨rfl, rfl, rfl, trivial⟩
    · refine v_ic (v := nI 1) hz dX2_countCovered_23 (by decide) ?_
      refine v_goto hz 28 dX2_countCovered_24 (by decide) ?_
      first | with_reducible refine v_iaddN hz dX2_countCovered_28 ?_ | refine v_iadd hz dX2_countCovered_28 ?_
      refine v_top (y := nI (sm (fun i => if cv i then 1 else 0) (i + 1))) (by rw [sm]; first | rw [if_pos c20] | rw [if_neg c20]) ?_
      refine v_istore_n hz dX2_countCovered_29 (by decide) rfl ?_
      first | refine v_iincN hz 1 dX2_countCovered_30 (by decide) rfl (by decide) rfl ?_ | refine v_iinc hz dX2_countCovered_30 rfl (by decide) rfl ?_
      refine v_goto hz 4 dX2_countCovered_33 (by decide) ?_
      exact v_sub (ih (i + 1) (by omega) (by omega)) ⟨rfl, rfl, rfl, trivial⟩
set_option maxHeartbeats 4000000 in
set_option maxRecDepth 100000 in
theorem cX2_countCovered_ok (l : Launch) (g : Gz) (κ : Kz) (I : Iz) (R : Rz) (J : Jz) (A : Nat → Nat) (hf : LFg κ R A) (cv : Nat → Bool) (hcv : ∀ i, i < 8 → I (A 14) i = bz (cv i = true)) : Ct l mX2_countCovered 0 0 g [.ref (A 11)] κ I R J (Si κ R J (fun r I1 => r = nI (sm (fun i => if cv i then 1 else 0) 8) ∧ I1 = I)) := by
  refine ct_of (by decide) (Nat.le_of_ble_eq_true rfl) ?_
  intro z hz hr hrc hrs
  have hz : Am z cX2_countCovered RX2 3 0 := hz
  have hr : Rt z yX2_countCovered (some .int) 0 0 _ := hr
  show V z 3 0 0 0 [(0, .ref (A 11))] [] κ I R J
  obtain ⟨hk, ho11, ⟨hR0, hK12, hN12, hrow⟩, ⟨hR1, hK13, hN13, ho13⟩, ⟨hR2, hK14, hN14, ho14⟩⟩ := id hf
  have n13 : A 11 ≠ A 13 := tag_ne ho11 ho13 (by decide)
  have n14 : A 11 ≠ A 14 := tag_ne ho11 ho14 (by decide)
  have n34 : A 13 ≠ A 14 := tag_ne ho13 ho14 (by decide)
  refine v_ic (v := nI 0) hz dX2_countCovered_0 (by decide) ?_
  refine v_istore_n hz dX2_countCovered_1 (by decide) rfl ?_
  refine v_ic (v := nI 0) hz dX2_countCovered_2 (by decide) ?_
  refine v_istore_n hz dX2_countCovered_3 (by decide) rfl ?_
  exact v_sub (lp_X2_countCovered hf hz hcv hr 9 0 (by omega) (by omega)) ⟨rfl, rfl, rfl, trivial⟩
set_option maxHeartbeats 4000000 in
set_option maxRecDepth 100000 in
theorem cX2_tell_ok (l : Launch) (g : Gz) (κ : Kz) (I : Iz) (R : Rz) (J : Jz) (A : Nat → Nat) (hf : LFg κ R A) (v : Nat) (cv : Nat → Bool) (hv : 5 ≤ v ∧ v < 10) (hcv : ∀ i, i < 8 → I (A 14) i = bz (cv i = true)) : Ct l mX2_tell 0 0 g [.ref (A 11), .int (nI v)] κ I R J (Si κ R J (fun r I1 => r = (if v = 9 then nI (sm (fun i => if cv i then 1 else 0) 8) else I (A 11) (v - 2)) ∧ I1 = I)) := by
  refine ct_of (by decide) (Nat.le_of_ble_eq_true rfl) ?_
  intro z hz hr hrc hrs
  have hz : Am z cX2_tell RX2 2 1 := hz
  have hr : Rt z yX2_tell (some .int) 0 0 _ := hr
  show V z 2 0 0 0 [(0, .ref (A 11)), (1, .int (nI v))] [] κ I R J
  obtain ⟨hk, ho11, ⟨hR0, hK12, hN12, hrow⟩, ⟨hR1, hK13, hN13, ho13⟩, ⟨hR2, hK14, hN14, ho14⟩⟩ := id hf
  have n13 : A 11 ≠ A 13 := tag_ne ho11 ho13 (by decide)
  have n14 : A 11 ≠ A 14 := tag_ne ho11 ho14 (by decide)
  have n34 : A 13 ≠ A 14 := tag_ne ho13 ho14 (by decide)
  refine v_iload_n hz dX2_tell_0 rfl ?_
  refine v_tsw hz 5 9 [36, 41, 46, 51, 56] 61 dX2_tell_1 ⟨rfl, rfl⟩ (by decide) (by decide) (by decide) (fun j1 hj1_1 hj2_1 c1 => ?_) (fun c1 => ?_)
  · rcases (show j1 = 5 ∨ j1 = 6 ∨ j1 = 7 ∨ j1 = 8 ∨ j1 = 9 by omega) with rfl | rfl | rfl | rfl | rfl
    · refine v_pc (pc' := 36) rfl ?_
      have e0 := (nI_eq (by omega) (by decide)).mp c1
      refine v_aload_n hz dX2_tell_36 rfl ?_
      refine v_getI hz fX2_26 (by assumption) dX2_tell_37 ?_
      exact v_iret hz hr dX2_tell_40 ⟨by subst e0; rfl, rfl⟩
    · refine v_pc (pc' := 41) rfl ?_
      have e0 := (nI_eq (by omega) (by decide)).mp c1
      refine v_aload_n hz dX2_tell_41 rfl ?_
      refine v_getI hz fX2_30 (by assumption) dX2_tell_42 ?_
      exact v_iret hz hr dX2_tell_45 ⟨by subst e0; rfl, rfl⟩
    · refine v_pc (pc' := 46) rfl ?_
      have e0 := (nI_eq (by omega) (by decide)).mp c1
      refine v_aload_n hz dX2_tell_46 rfl ?_
      refine v_getI hz fX2_33 (by assumption) dX2_tell_47 ?_
      exact v_iret hz hr dX2_tell_50 ⟨by subst e0; rfl, rfl⟩
    · refine v_pc (pc' := 51) rfl ?_
      have e0 := (nI_eq (by omega) (by decide)).mp c1
      refine v_aload_n hz dX2_tell_51 rfl ?_
      refine v_getI hz fX2_36 (by assumption) dX2_tell_52 ?_
      exact v_iret hz hr dX2_tell_55 ⟨by subst e0; rfl, rfl⟩
    · refine v_pc (pc' := 56) rfl ?_
      have e0 := (nI_eq (by omega) (by decide)).mp c1
      refine v_aload_n hz dX2_tell_56 rfl ?_
      refine v_callVi hz lX2_57 (cX2_countCovered_ok _ _ _ _ _ _ A hf cv hcv) (by assumption) rfl rfl (Nat.le_of_ble_eq_true rfl) (by decide) ⟨Nat.zero_le _, Nat.zero_le _⟩ dX2_tell_57 (fun r I1 h57 => ?_)
      obtain ⟨rfl, rfl⟩ := h57
      exact v_iret hz hr dX2_tell_60 ⟨by subst e0; rfl, rfl⟩
  · exact absurd ⟨v, by omega, by omega, rfl⟩ c1
/-- which signs the first k steps have covered -/
def cvs (w : Nat) (S T : Sg) (cv : Nat → Bool) : Nat → Nat → Bool
  | 0, x => cv x
  | k + 1, x => cvs w S T cv k x || (decide (knd w S T (pos w S T k).1 (pos w S T k).2 = 0) && decide (stc w S T k = 0) && decide ((pos w S T k).2 = x))
def Fcv (A : Nat → Nat) (I I1 : Iz) : Prop := ∀ a, a ≠ A 14 → I1 a = I a
theorem knd_le (w : Nat) (S T : Sg) (i j : Nat) : knd w S T i j ≤ 2 := by
  unfold knd
  split
  · omega
  · split <;> omega
theorem stc_le {w : Nat} {S T : Sg} {k : Nat} (hw : w ≤ 20) (hS : ∀ i, S.2.1 i ≤ 12 ∨ True) : stc w S T k ≤ stc w S T k := Nat.le_refl _
