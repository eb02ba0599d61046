/-! ===== the class: in how many segments each gram is ===== -/
def LIg (κ : Kz) (R : Rz) (A : Nat → Nat) : Prop := κ.1 (A 3) = 3 ∧ κ.2.2 (A 3) = 3 ∧ R (A 3) 0 = some (A 4) ∧ κ.1 (A 4) = 9 ∧ κ.2.1 (A 4) = 729 ∧ κ.2.2 (A 4) = 4
def kzn (H : Nat → Nat) : Nat := smw (fun c => if 0 < H c then 1 else 0) 729
def cix (I : Iz) (A : Nat → Nat) (H : Nat → Nat) : Prop := (∀ c, c < 729 → I (A 4) c = nI (H c) ∧ H c ≤ 100) ∧ I (A 3) 1 = nI (kzn H)
theorem cnt_zero {Gr : Nat → Nat} {c : Nat} : ∀ {n : Nat}, (∀ k, k < n → Gr k ≠ c) → cnt Gr n c = 0
  | 0, _ => rfl
  | n + 1, h => by
    show cnt Gr n c + (if Gr n = c then 1 else 0) = 0
    rw [cnt_zero (fun k hk => h k (by omega)), if_neg (h n (by omega))]
theorem first_iff {Gr : Nat → Nat} {n i : Nat} (h : ∀ i j, i ≤ j → j < n → Gr i ≤ Gr j) (hi : i < n) : (i = 0 ∨ Gr i ≠ Gr (i - 1)) ↔ cnt Gr i (Gr i) = 0 := by
  constructor
  · intro q
    refine cnt_zero (fun k hk e => ?_)
    rcases q with q | q
    · omega
    · have h1 := h k (i - 1) (by omega) (by omega)
      have h2 := h (i - 1) i (by omega) hi
      omega
  · intro q
    by_cases e : i = 0
    · exact Or.inl e
    · refine Or.inr (fun e2 => ?_)
      obtain ⟨m, rfl⟩ : ∃ m, i = m + 1 := ⟨i - 1, by omega⟩
      have q' : cnt Gr m (Gr (m + 1)) + (if Gr m = Gr (m + 1) then 1 else 0) = 0 := q
      rw [Nat.add_sub_cancel] at e2
      rw [if_pos e2.symm] at q'
      omega
def oc (Gr : Nat → Nat) (i c : Nat) : Nat := if 0 < cnt Gr i c then 1 else 0
theorem oc_s {Gr : Nat → Nat} {i c : Nat} : oc Gr (i + 1) c = if c = Gr i then 1 else oc Gr i c := by
  unfold oc
  have e : cnt Gr (i + 1) c = cnt Gr i c + (if Gr i = c then 1 else 0) := rfl
  rw [e]
  by_cases q : c = Gr i
  · rw [if_pos q, if_pos q.symm, if_pos (by omega)]
  · rw [if_neg q, if_neg (Ne.symm q), Nat.add_zero]
theorem kzn_c {H H' : Nat → Nat} (h : ∀ c, H c = H' c) : kzn H = kzn H' := by rw [show H = H' from funext h]
theorem kzn_le (H : Nat → Nat) : kzn H ≤ 729 := by
  unfold kzn
  rw [smw_eq]
  have := sm_le (f := fun c => if 0 < H c then 1 else 0) (c := 1) (fun i => by split <;> omega) 729
  omega
theorem kzn_up {H H' : Nat → Nat} {c0 : Nat} (h0 : c0 < 729) (h : ∀ c, c ≠ c0 → H' c = H c) (h1 : H' c0 = H c0 + 1) : kzn H' = kzn H + (if H c0 = 0 then 1 else 0) := by
  unfold kzn
  rw [smw_eq, smw_eq, sm_bump (f := fun c => if 0 < H c then 1 else 0) (c := c0) (d := if H c0 = 0 then 1 else 0) (fun j hj => by rw [h j hj]) (by rw [h1, if_pos (by omega)]; split <;> split <;> omega) 729, if_pos h0]
theorem kzn_dn {H H' : Nat → Nat} {c0 : Nat} (h0 : c0 < 729) (h : ∀ c, c ≠ c0 → H' c = H c) (h1 : H' c0 + 1 = H c0) : kzn H = kzn H' + (if H' c0 = 0 then 1 else 0) := kzn_up h0 (fun c hc => (h c hc).symm) h1.symm
theorem cix.to {I : Iz} {A : Nat → Nat} {H H' : Nat → Nat} (h : cix I A H) (e : ∀ c, H c = H' c) : cix I A H' := by rw [← show H = H' from funext e]; exact h
/-- what the index alters -/
def Fix (A : Nat → Nat) (I I1 : Iz) : Prop := ∀ a, a ≠ A 3 → a ≠ A 4 → I1 a = I a
set_option maxHeartbeats 4000000 in
set_option maxRecDepth 100000 in
theorem cX3_holdersOf_ok (l : Launch) (g : Gz) (κ : Kz) (I : Iz) (R : Rz) (J : Jz) (A : Nat → Nat) (hx : LIg κ R A) (c : Nat) (hc : c < 729) : Ct l mX3_holdersOf 0 0 g [.ref (A 3), .int (nI c)] κ I R J (Si κ R J (fun r I1 => r = I (A 4) c ∧ I1 = I)) := by
  refine ct_of (by decide) (Nat.le_of_ble_eq_true rfl) ?_
  intro z hz hr hrc hrs
  have hz : Am z cX3_holdersOf RX3 2 1 := hz
  have hr : Rt z yX3_holdersOf (some .int) 0 0 _ := hr
  show V z 2 0 0 0 [(0, .ref (A 3)), (1, .int (nI c))] [] κ I R J
  obtain ⟨hk, ho3, hR0, hK4, hN4, ho4⟩ := id hx
  have hne : A 3 ≠ A 4 := tag_ne ho3 ho4 (by decide)
  refine v_iload_n hz dX3_holdersOf_0 rfl ?_
  refine v_aload_n hz dX3_holdersOf_1 rfl ?_
  refine v_getR hz fX3_9 (by assumption) (by assumption) dX3_holdersOf_2 ?_
  refine v_alenN hz (by omega) (by assumption) dX3_holdersOf_5 ?_
  refine v_callSi hz lX3_15 (cX7_isWithin_ok _ _ _ _ _ _ _ _) rfl rfl (Nat.le_of_ble_eq_true rfl) (by decide) ⟨Nat.zero_le _, Nat.zero_le _⟩ dX3_holdersOf_6 (fun r I1 h6 => ?_)
  obtain ⟨rfl, rfl⟩ := h6
  refine v_top (within_N (by omega) (by omega)) ?_
  first | with_reducible refine v_if_eqB hz 21 dX3_holdersOf_9 (by decide) (fun c9 => ?_) (fun c9 => ?_) | with_reducible refine v_if_eqN hz 21 (by omega) dX3_holdersOf_9 (by decide) (fun c9 => ?_) (fun c9 => ?_) | refine v_if_eq hz 21 dX3_holdersOf_9 (by decide) (fun c9 => ?_) (fun c9 => ?_)
  · exact absurd hc c9
  · refine v_aload_n hz dX3_holdersOf_12 rfl ?_
    refine v_getR hz fX3_9 (by assumption) (by assumption) dX3_holdersOf_13 ?_
    refine v_iload_n hz dX3_holdersOf_16 rfl ?_
    refine v_ialdN hz (by assumption) (by assumption) (by omega) (by decide) dX3_holdersOf_17 ?_
    refine v_goto hz 22 dX3_holdersOf_18 (by decide) ?_
    exact v_iret hz hr dX3_holdersOf_22 ⟨rfl, rfl⟩
set_option maxHeartbeats 4000000 in
set_option maxRecDepth 100000 in
theorem lp_X3_add {z : Zz} {κ : Kz} {I0 : Iz} {R : Rz} {J : Jz} {A : Nat → Nat} (hx : LIg κ R A) (hz : Am z cX3_add RX3 4 1) {b n : Nat} {Gr H : Nat → Nat} (hg : LGg κ R A b) (hb : 200 ≤ b) (h1 : cgr I0 A b n Gr) (hH : ∀ c, H c ≤ 50) (hr : Rt z yX3_add none 0 0 (Sv κ R J (fun I1 => cix I1 A (fun c => H c + oc Gr n c) ∧ Fix A I0 I1))) :
    ∀ (m i : Nat) (I : Iz), i ≤ n → n + 1 ≤ i + m → cix I A (fun c => H c + oc Gr i c) → Fix A I0 I → V z 4 0 0 2 [(0, .ref (A 3)), (1, .ref (A b)), (2, .int (nI i))] [] κ I R J := by
  obtain ⟨hk, ho3, hR0, hK4, hN4, ho4⟩ := id hx
  have hne : A 3 ≠ A 4 := tag_ne ho3 ho4 (by decide)
  obtain ⟨gk, go, -, ⟨gR1, gK2, gN2, go2⟩, -⟩ := id hg
  have hord := h1.2.2.2
  have hn56 := h1.1
  intro m
  induction m with
  | zero => intro i I hi hm; exact absurd hm (by omega)
  | succ m ih =>
  intro i I hi hm hcx hF
  have g1 : cgr I A b n Gr := h1.keep (by rw [hF _ (tag_ne go ho3 (by omega)) (tag_ne go ho4 (by omega))]) (hF _ (tag_ne go2 ho3 (by omega)) (tag_ne go2 ho4 (by omega)))
  refine v_iload_n hz dX3_add_2 rfl ?_
  refine v_aload_n hz dX3_add_3 rfl ?_
  refine v_getI hz fX3_19 (by assumption) dX3_add_4 ?_
  refine v_top g1.2.1 ?_
  first | with_reducible refine v_icmp_geN hz 72 (by omega) (by omega) dX3_add_7 (by decide) (fun c7 => ?_) (fun c7 => ?_) | refine v_icmp_ge hz 72 dX3_add_7 (by decide) (fun c7 => ?_) (fun c7 => ?_)
  · exact v_vret hz hr dX3_add_72 ⟨by rw [show n = i by omega]; exact hcx, hF⟩
  · refine v_aload_n hz dX3_add_10 rfl ?_
    refine v_getR hz fX3_25 (by assumption) (by assumption) dX3_add_11 ?_
    refine v_iload_n hz dX3_add_14 rfl ?_
    refine v_ialdN hz (by assumption) (by assumption) (by omega) (by decide) dX3_add_15 ?_
    refine v_top (g1.2.2.1 i (by omega)).1 ?_
    have xg := (g1.2.2.1 i (by omega)).2
    refine v_istore_n hz dX3_add_16 (by decide) rfl ?_
    refine v_aload_n hz dX3_add_17 rfl ?_
    refine v_iload_n hz dX3_add_18 rfl ?_
    refine v_callVi hz lX3_28 (cX5_isFirstOfItsKind_ok _ _ _ _ _ _ A b hg n i Gr g1 (by omega)) (by assumption) rfl rfl (Nat.le_of_ble_eq_true rfl) (by decide) ⟨Nat.zero_le _, Nat.zero_le _⟩ dX3_add_19 (fun r I1 h19 => ?_)
    obtain ⟨rfl, rfl⟩ := h19
    first | with_reducible refine v_if_eqB hz 66 dX3_add_22 (by decide) (fun c22 => ?_) (fun c22 => ?_) | with_reducible refine v_if_eqN hz 66 (by omega) dX3_add_22 (by decide) (fun c22 => ?_) (fun c22 => ?_) | refine v_if_eq hz 66 dX3_add_22 (by decide) (fun c22 => ?_) (fun c22 => ?_)
    · first | refine v_iincN hz 1 dX3_add_66 (by decide) rfl (by decide) rfl ?_ | refine v_iinc hz dX3_add_66 rfl (by decide) rfl ?_
      refine v_goto hz 2 dX3_add_69 (by decide) ?_
      first
      | (exact v_sub (ih (i + 1) _ (by omega) (by omega) (hcx.to (fun c => by have := first_iff hord (show i < n by omega); rw [oc_s]; by_cases e : c = Gr i; rw [if_pos e, e]; unfold oc; rw [if_pos (by omega)]; rw [if_neg e])) hF) ⟨rfl, rfl, rfl, trivial⟩)
      | (exact v_sub (ih (i + 1) _ (by omega) (by omega) ⟨fun c hc => by
            dsimp only
            by_cases e : c = Gr i
            · rw [e, u2_eq, oc_s, if_pos rfl]; exact ⟨rfl, by omega⟩
            · rw [u2_at e, oc_s, if_neg e]; first | exact hcx.1 c hc | (rw [u2_ne (Ne.symm hne)]; exact hcx.1 c hc), by rw [u2_ne hne, ku]; first | (rw [if_pos (by omega)]; exact u2_eq) | (rw [if_neg (by omega)]; exact hcx.2)⟩ (fun a a1 a2 => by rw [u2_ne a2]; first | exact hF a a1 a2 | (rw [u2_ne a1]; exact hF a a1 a2))) ⟨rfl, rfl, rfl, trivial⟩)
    · refine v_iload_n hz dX3_add_25 rfl ?_
      refine v_aload_n hz dX3_add_26 rfl ?_
      refine v_getR hz fX3_9 (by assumption) (by assumption) dX3_add_27 ?_
      refine v_alenN hz (by omega) (by assumption) dX3_add_30 ?_
      refine v_callSi hz lX3_15 (cX7_isWithin_ok _ _ _ _ _ _ _ _) rfl rfl (Nat.le_of_ble_eq_true rfl) (by decide) ⟨Nat.zero_le _, Nat.zero_le _⟩ dX3_add_31 (fun r I1 h31 => ?_)
      obtain ⟨rfl, rfl⟩ := h31
      refine v_top (within_N (by omega) (by omega)) ?_
      first | with_reducible refine v_if_eqB hz 66 dX3_add_34 (by decide) (fun c34 => ?_) (fun c34 => ?_) | with_reducible refine v_if_eqN hz 66 (by omega) dX3_add_34 (by decide) (fun c34 => ?_) (fun c34 => ?_) | refine v_if_eq hz 66 dX3_add_34 (by decide) (fun c34 => ?_) (fun c34 => ?_)
      · exact absurd xg c34
      · have cz := (first_iff hord (show i < n by omega)).mp c22
        have oz : oc Gr i (Gr i) = 0 := by unfold oc; rw [if_neg (by omega)]
        have hb0 := (hcx.1 (Gr i) xg).1
        dsimp only at hb0
        rw [oz, Nat.add_zero] at hb0
        have hHg := hH (Gr i)
        have ku := kzn_up (H := fun c => H c + oc Gr i c) (H' := fun c => H c + oc Gr (i + 1) c) xg (fun c hc => by rw [oc_s, if_neg hc]) (by rw [oc_s, if_pos rfl, oz])
        rw [oz, Nat.add_zero] at ku
        refine v_aload_n hz dX3_add_37 rfl ?_
        refine v_getR hz fX3_9 (by assumption) (by assumption) dX3_add_38 ?_
        refine v_iload_n hz dX3_add_41 rfl ?_
        refine v_ialdN hz (by assumption) (by assumption) xg (by decide) dX3_add_42 ?_
        refine v_top hb0 ?_
        first | with_reducible refine v_if_neB hz 56 dX3_add_43 (by decide) (fun c43 => ?_) (fun c43 => ?_) | with_reducible refine v_if_neN hz 56 (by omega) dX3_add_43 (by decide) (fun c43 => ?_) (fun c43 => ?_) | refine v_if_ne hz 56 dX3_add_43 (by decide) (fun c43 => ?_) (fun c43 => ?_)
        · refine v_aload_n hz dX3_add_56 rfl ?_
          refine v_getR hz fX3_9 (by assumption) (by assumption) dX3_add_57 ?_
          refine v_iload_n hz dX3_add_60 rfl ?_
          refine v_dup2 hz dX3_add_61 rfl rfl ?_
          refine v_ialdN hz (by assumption) (by assumption) xg (by decide) dX3_add_62 ?_
          refine v_top (y := nI (H (Gr i))) (by first | exact hb0 | (rw [u2_ne (Ne.symm hne)]; exact hb0)) ?_
          refine v_ic (v := nI 1) hz dX3_add_63 (by decide) ?_
          first | with_reducible refine v_iaddN hz dX3_add_64 ?_ | refine v_iadd hz dX3_add_64 ?_
          refine v_iastN hz (by assumption) (by assumption) xg (by decide) dX3_add_65 ?_
          first | refine v_iincN hz 1 dX3_add_66 (by decide) rfl (by decide) rfl ?_ | refine v_iinc hz dX3_add_66 rfl (by decide) rfl ?_
          refine v_goto hz 2 dX3_add_69 (by decide) ?_
          first
          | (exact v_sub (ih (i + 1) _ (by omega) (by omega) (hcx.to (fun c => by have := first_iff hord (show i < n by omega); rw [oc_s]; by_cases e : c = Gr i; rw [if_pos e, e]; unfold oc; rw [if_pos (by omega)]; rw [if_neg e])) hF) ⟨rfl, rfl, rfl, trivial⟩)
          | (exact v_sub (ih (i + 1) _ (by omega) (by omega) ⟨fun c hc => by
                dsimp only
                by_cases e : c = Gr i
                · rw [e, u2_eq, oc_s, if_pos rfl]; exact ⟨rfl, by omega⟩
                · rw [u2_at e, oc_s, if_neg e]; first | exact hcx.1 c hc | (rw [u2_ne (Ne.symm hne)]; exact hcx.1 c hc), by rw [u2_ne hne, ku]; first | (rw [if_pos (by omega)]; exact u2_eq) | (rw [if_neg (by omega)]; exact hcx.2)⟩ (fun a a1 a2 => by rw [u2_ne a2]; first | exact hF a a1 a2 | (rw [u2_ne a1]; exact hF a a1 a2))) ⟨rfl, rfl, rfl, trivial⟩)
        · refine v_aload_n hz dX3_add_46 rfl ?_
          refine v_dup hz dX3_add_47 rfl ?_
          refine v_getI hz fX3_32 (by assumption) dX3_add_48 ?_
          refine v_top hcx.2 ?_
          refine v_ic (v := nI 1) hz dX3_add_51 (by decide) ?_
          first | with_reducible refine v_iaddN hz dX3_add_52 ?_ | refine v_iadd hz dX3_add_52 ?_
          refine v_putI hz fX3_32 (by assumption) dX3_add_53 ?_
          refine v_aload_n hz dX3_add_56 rfl ?_
          refine v_getR hz fX3_9 (by assumption) (by assumption) dX3_add_57 ?_
          refine v_iload_n hz dX3_add_60 rfl ?_
          refine v_dup2 hz dX3_add_61 rfl rfl ?_
          refine v_ialdN hz (by assumption) (by assumption) xg (by decide) dX3_add_62 ?_
          refine v_top (y := nI (H (Gr i))) (by first | exact hb0 | (rw [u2_ne (Ne.symm hne)]; exact hb0)) ?_
          refine v_ic (v := nI 1) hz dX3_add_63 (by decide) ?_
          first | with_reducible refine v_iaddN hz dX3_add_64 ?_ | refine v_iadd hz dX3_add_64 ?_
          refine v_iastN hz (by assumption) (by assumption) xg (by decide) dX3_add_65 ?_
          first | refine v_iincN hz 1 dX3_add_66 (by decide) rfl (by decide) rfl ?_ | refine v_iinc hz dX3_add_66 rfl (by decide) rfl ?_
          refine v_goto hz 2 dX3_add_69 (by decide) ?_
          first
          | (exact v_sub (ih (i + 1) _ (by omega) (by omega) (hcx.to (fun c => by have := first_iff hord (show i < n by omega); rw [oc_s]; by_cases e : c = Gr i; rw [if_pos e, e]; unfold oc; rw [if_pos (by omega)]; rw [if_neg e])) hF) ⟨rfl, rfl, rfl, trivial⟩)
          | (exact v_sub (ih (i + 1) _ (by omega) (by omega) ⟨fun c hc => by
                dsimp only
                by_cases e : c = Gr i
                · rw [e, u2_eq, oc_s, if_pos rfl]; exact ⟨rfl, by omega⟩
                · rw [u2_at e, oc_s, if_neg e]; first | exact hcx.1 c hc | (rw [u2_ne (Ne.symm hne)]; exact hcx.1 c hc), by rw [u2_ne hne, ku]; first | (rw [if_pos (by omega)]; exact u2_eq) | (rw [if_neg (by omega)]; exact hcx.2)⟩ (fun a a1 a2 => by rw [u2_ne a2]; first | exact hF a a1 a2 | (rw [u2_ne a1]; exact hF a a1 a2))) ⟨rfl, rfl, rfl, trivial⟩)
set_option maxHeartbeats 4000000 in
set_option maxRecDepth 100000 in
theorem cX3_add_ok (l : Launch) (g : Gz) (κ : Kz) (I : Iz) (R : Rz) (J : Jz) (A : Nat → Nat) (hx : LIg κ R A) (b n : Nat) (Gr H : Nat → Nat) (hg : LGg κ R A b) (hb : 200 ≤ b) (h1 : cgr I A b n Gr) (hH : ∀ c, H c ≤ 50) (hcx : cix I A H) : Ct l mX3_add 0 0 g [.ref (A 3), .ref (A b)] κ I R J (Sv κ R J (fun I1 => cix I1 A (fun c => H c + oc Gr n c) ∧ Fix A I I1)) := by
  refine ct_of (by decide) (Nat.le_of_ble_eq_true rfl) ?_
  intro z hz hr hrc hrs
  have hz : Am z cX3_add RX3 4 1 := hz
  have hr : Rt z yX3_add none 0 0 _ := hr
  show V z 4 0 0 0 [(0, .ref (A 3)), (1, .ref (A b))] [] κ I R J
  obtain ⟨hk, ho3, hR0, hK4, hN4, ho4⟩ := id hx
  have hne : A 3 ≠ A 4 := tag_ne ho3 ho4 (by decide)
  refine v_ic (v := nI 0) hz dX3_add_0 (by decide) ?_
  refine v_istore_n hz dX3_add_1 (by decide) rfl ?_
  exact v_sub (lp_X3_add hx hz hg hb h1 hH hr (n + 1) 0 I (by omega) (by omega) (hcx.to (fun c => by show H c = H c + 0; omega)) (fun _ _ _ => rfl)) ⟨rfl, rfl, rfl, trivial⟩
set_option maxHeartbeats 4000000 in
set_option maxRecDepth 100000 in
theorem lp_X3_remove {z : Zz} {κ : Kz} {I0 : Iz} {R : Rz} {J : Jz} {A : Nat → Nat} (hx : LIg κ R A) (hz : Am z cX3_remove RX3 4 1) {b n : Nat} {Gr H : Nat → Nat} (hg : LGg κ R A b) (hb : 200 ≤ b) (h1 : cgr I0 A b n Gr) (hH : ∀ c, H c ≤ 50) (hge : ∀ c, 0 < cnt Gr n c → 1 ≤ H c) (hr : Rt z yX3_remove none 0 0 (Sv κ R J (fun I1 => cix I1 A (fun c => H c - oc Gr n c) ∧ Fix A I0 I1))) :
    ∀ (m i : Nat) (I : Iz), i ≤ n → n + 1 ≤ i + m → cix I A (fun c => H c - oc Gr i c) → Fix A I0 I → V z 4 0 0 2 [(0, .ref (A 3)), (1, .ref (A b)), (2, .int (nI i))] [] κ I R J := by
  obtain ⟨hk, ho3, hR0, hK4, hN4, ho4⟩ := id hx
  have hne : A 3 ≠ A 4 := tag_ne ho3 ho4 (by decide)
  obtain ⟨gk, go, -, ⟨gR1, gK2, gN2, go2⟩, -⟩ := id hg
  have hord := h1.2.2.2
  have hn56 := h1.1
  intro m
  induction m with
  | zero => intro i I hi hm; exact absurd hm (by omega)
  | succ m ih =>
  intro i I hi hm hcx hF
  have g1 : cgr I A b n Gr := h1.keep (by rw [hF _ (tag_ne go ho3 (by omega)) (tag_ne go ho4 (by omega))]) (hF _ (tag_ne go2 ho3 (by omega)) (tag_ne go2 ho4 (by omega)))
  refine v_iload_n hz dX3_remove_2 rfl ?_
  refine v_aload_n hz dX3_remove_3 rfl ?_
  refine v_getI hz fX3_19 (by assumption) dX3_remove_4 ?_
  refine v_top g1.2.1 ?_
  first | with_reducible refine v_icmp_geN hz 72 (by omega) (by omega) dX3_remove_7 (by decide) (fun c7 => ?_) (fun c7 => ?_) | refine v_icmp_ge hz 72 dX3_remove_7 (by decide) (fun c7 => ?_) (fun c7 => ?_)
  · exact v_vret hz hr dX3_remove_72 ⟨by rw [show n = i by omega]; exact hcx, hF⟩
  · refine v_aload_n hz dX3_remove_10 rfl ?_
    refine v_getR hz fX3_25 (by assumption) (by assumption) dX3_remove_11 ?_
    refine v_iload_n hz dX3_remove_14 rfl ?_
    refine v_ialdN hz (by assumption) (by assumption) (by omega) (by decide) dX3_remove_15 ?_
    refine v_top (g1.2.2.1 i (by omega)).1 ?_
    have xg := (g1.2.2.1 i (by omega)).2
    refine v_istore_n hz dX3_remove_16 (by decide) rfl ?_
    refine v_aload_n hz dX3_remove_17 rfl ?_
    refine v_iload_n hz dX3_remove_18 rfl ?_
    refine v_callVi hz lX3_28 (cX5_isFirstOfItsKind_ok _ _ _ _ _ _ A b hg n i Gr g1 (by omega)) (by assumption) rfl rfl (Nat.le_of_ble_eq_true rfl) (by decide) ⟨Nat.zero_le _, Nat.zero_le _⟩ dX3_remove_19 (fun r I1 h19 => ?_)
    obtain ⟨rfl, rfl⟩ := h19
    first | with_reducible refine v_if_eqB hz 66 dX3_remove_22 (by decide) (fun c22 => ?_) (fun c22 => ?_) | with_reducible refine v_if_eqN hz 66 (by omega) dX3_remove_22 (by decide) (fun c22 => ?_) (fun c22 => ?_) | refine v_if_eq hz 66 dX3_remove_22 (by decide) (fun c22 => ?_) (fun c22 => ?_)
    · first | refine v_iincN hz 1 dX3_remove_66 (by decide) rfl (by decide) rfl ?_ | refine v_iinc hz dX3_remove_66 rfl (by decide) rfl ?_
      refine v_goto hz 2 dX3_remove_69 (by decide) ?_
      first
      | (exact v_sub (ih (i + 1) _ (by omega) (by omega) (hcx.to (fun c => by have := first_iff hord (show i < n by omega); rw [oc_s]; by_cases e : c = Gr i; rw [if_pos e, e]; unfold oc; rw [if_pos (by omega)]; rw [if_neg e])) hF) ⟨rfl, rfl, rfl, trivial⟩)
      | (exact v_sub (ih (i + 1) _ (by omega) (by omega) ⟨fun c hc => by
            dsimp only
            by_cases e : c = Gr i
            · first | (rw [e, u2_ne (Ne.symm hne), u2_eq, oc_s, if_pos rfl]; exact ⟨rfl, by omega⟩) | (rw [e, u2_eq, oc_s, if_pos rfl]; exact ⟨rfl, by omega⟩)
            · first | (rw [u2_ne (Ne.symm hne), u2_at e, oc_s, if_neg e]; exact hcx.1 c hc) | (rw [u2_at e, oc_s, if_neg e]; exact hcx.1 c hc), by first | (rw [u2_eq]; congr 1; rw [ku, if_pos (by omega)]; omega) | (rw [u2_ne hne, hcx.2, ku, if_neg (by omega)]; rfl)⟩ (fun a a1 a2 => by first | (rw [u2_ne a1, u2_ne a2]; exact hF a a1 a2) | (rw [u2_ne a2]; exact hF a a1 a2))) ⟨rfl, rfl, rfl, trivial⟩)
    · refine v_iload_n hz dX3_remove_25 rfl ?_
      refine v_aload_n hz dX3_remove_26 rfl ?_
      refine v_getR hz fX3_9 (by assumption) (by assumption) dX3_remove_27 ?_
      refine v_alenN hz (by omega) (by assumption) dX3_remove_30 ?_
      refine v_callSi hz lX3_15 (cX7_isWithin_ok _ _ _ _ _ _ _ _) rfl rfl (Nat.le_of_ble_eq_true rfl) (by decide) ⟨Nat.zero_le _, Nat.zero_le _⟩ dX3_remove_31 (fun r I1 h31 => ?_)
      obtain ⟨rfl, rfl⟩ := h31
      refine v_top (within_N (by omega) (by omega)) ?_
      first | with_reducible refine v_if_eqB hz 66 dX3_remove_34 (by decide) (fun c34 => ?_) (fun c34 => ?_) | with_reducible refine v_if_eqN hz 66 (by omega) dX3_remove_34 (by decide) (fun c34 => ?_) (fun c34 => ?_) | refine v_if_eq hz 66 dX3_remove_34 (by decide) (fun c34 => ?_) (fun c34 => ?_)
      · exact absurd xg c34
      · have cz := (first_iff hord (show i < n by omega)).mp c22
        have oz : oc Gr i (Gr i) = 0 := by unfold oc; rw [if_neg (by omega)]
        have hb0 := (hcx.1 (Gr i) xg).1
        dsimp only at hb0
        rw [oz, Nat.sub_zero] at hb0
        have hHg := hH (Gr i)
        have h1g : 1 ≤ H (Gr i) := hge (Gr i) (Nat.lt_of_lt_of_le (by show 0 < cnt Gr i (Gr i) + (if Gr i = Gr i then 1 else 0); rw [if_pos rfl]; omega) (cnt_mono (show i + 1 ≤ n by omega)))
        have ku := kzn_dn (H := fun c => H c - oc Gr i c) (H' := fun c => H c - oc Gr (i + 1) c) xg (fun c hc => by rw [oc_s, if_neg hc]) (by rw [oc_s, if_pos rfl, oz]; omega)
        rw [show oc Gr (i + 1) (Gr i) = 1 by rw [oc_s, if_pos rfl]] at ku
        have kl := kzn_le (fun c => H c - oc Gr (i + 1) c)
        refine v_aload_n hz dX3_remove_37 rfl ?_
        refine v_getR hz fX3_9 (by assumption) (by assumption) dX3_remove_38 ?_
        refine v_iload_n hz dX3_remove_41 rfl ?_
        refine v_dup2 hz dX3_remove_42 rfl rfl ?_
        refine v_ialdN hz (by assumption) (by assumption) xg (by decide) dX3_remove_43 ?_
        refine v_top hb0 ?_
        refine v_ic (v := nI 1) hz dX3_remove_44 (by decide) ?_
        refine v_isubN hz (by omega) dX3_remove_45 ?_
        refine v_iastN hz (by assumption) (by assumption) xg (by decide) dX3_remove_46 ?_
        refine v_aload_n hz dX3_remove_47 rfl ?_
        refine v_getR hz fX3_9 (by assumption) (by assumption) dX3_remove_48 ?_
        refine v_iload_n hz dX3_remove_51 rfl ?_
        refine v_ialdN hz (by assumption) (by assumption) xg (by decide) dX3_remove_52 ?_
        refine v_top u2_eq ?_
        first | with_reducible refine v_if_neB hz 66 dX3_remove_53 (by decide) (fun c53 => ?_) (fun c53 => ?_) | with_reducible refine v_if_neN hz 66 (by omega) dX3_remove_53 (by decide) (fun c53 => ?_) (fun c53 => ?_) | refine v_if_ne hz 66 dX3_remove_53 (by decide) (fun c53 => ?_) (fun c53 => ?_)
        · first | refine v_iincN hz 1 dX3_remove_66 (by decide) rfl (by decide) rfl ?_ | refine v_iinc hz dX3_remove_66 rfl (by decide) rfl ?_
          refine v_goto hz 2 dX3_remove_69 (by decide) ?_
          first
          | (exact v_sub (ih (i + 1) _ (by omega) (by omega) (hcx.to (fun c => by have := first_iff hord (show i < n by omega); rw [oc_s]; by_cases e : c = Gr i; rw [if_pos e, e]; unfold oc; rw [if_pos (by omega)]; rw [if_neg e])) hF) ⟨rfl, rfl, rfl, trivial⟩)
          | (exact v_sub (ih (i + 1) _ (by omega) (by omega) ⟨fun c hc => by
                dsimp only
                by_cases e : c = Gr i
                · first | (rw [e, u2_ne (Ne.symm hne), u2_eq, oc_s, if_pos rfl]; exact ⟨rfl, by omega⟩) | (rw [e, u2_eq, oc_s, if_pos rfl]; exact ⟨rfl, by omega⟩)
                · first | (rw [u2_ne (Ne.symm hne), u2_at e, oc_s, if_neg e]; exact hcx.1 c hc) | (rw [u2_at e, oc_s, if_neg e]; exact hcx.1 c hc), by first | (rw [u2_eq]; congr 1; rw [ku, if_pos (by omega)]; omega) | (rw [u2_ne hne, hcx.2, ku, if_neg (by omega)]; rfl)⟩ (fun a a1 a2 => by first | (rw [u2_ne a1, u2_ne a2]; exact hF a a1 a2) | (rw [u2_ne a2]; exact hF a a1 a2))) ⟨rfl, rfl, rfl, trivial⟩)
        · refine v_aload_n hz dX3_remove_56 rfl ?_
          refine v_dup hz dX3_remove_57 rfl ?_
          have kp := ku
          rw [if_pos (by omega)] at kp
          refine v_getI hz fX3_32 (by assumption) dX3_remove_58 ?_
          refine v_top (y := nI (kzn (fun c => H c - oc Gr i c))) (by rw [u2_ne hne]; exact hcx.2) ?_
          refine v_ic (v := nI 1) hz dX3_remove_61 (by decide) ?_
          refine v_isubN hz (by omega) dX3_remove_62 ?_
          refine v_putI hz fX3_32 (by assumption) dX3_remove_63 ?_
          first | refine v_iincN hz 1 dX3_remove_66 (by decide) rfl (by decide) rfl ?_ | refine v_iinc hz dX3_remove_66 rfl (by decide) rfl ?_
          refine v_goto hz 2 dX3_remove_69 (by decide) ?_
          first
          | (exact v_sub (ih (i + 1) _ (by omega) (by omega) (hcx.to (fun c => by have := first_iff hord (show i < n by omega); rw [oc_s]; by_cases e : c = Gr i; rw [if_pos e, e]; unfold oc; rw [if_pos (by omega)]; rw [if_neg e])) hF) ⟨rfl, rfl, rfl, trivial⟩)
          | (exact v_sub (ih (i + 1) _ (by omega) (by omega) ⟨fun c hc => by
                dsimp only
                by_cases e : c = Gr i
                · first | (rw [e, u2_ne (Ne.symm hne), u2_eq, oc_s, if_pos rfl]; exact ⟨rfl, by omega⟩) | (rw [e, u2_eq, oc_s, if_pos rfl]; exact ⟨rfl, by omega⟩)
                · first | (rw [u2_ne (Ne.symm hne), u2_at e, oc_s, if_neg e]; exact hcx.1 c hc) | (rw [u2_at e, oc_s, if_neg e]; exact hcx.1 c hc), by first | (rw [u2_eq]; congr 1; rw [ku, if_pos (by omega)]; omega) | (rw [u2_ne hne, hcx.2, ku, if_neg (by omega)]; rfl)⟩ (fun a a1 a2 => by first | (rw [u2_ne a1, u2_ne a2]; exact hF a a1 a2) | (rw [u2_ne a2]; exact hF a a1 a2))) ⟨rfl, rfl, rfl, trivial⟩)
set_option maxHeartbeats 4000000 in
set_option maxRecDepth 100000 in
theorem cX3_remove_ok (l : Launch) (g : Gz) (κ : Kz) (I : Iz) (R : Rz) (J : Jz) (A : Nat → Nat) (hx : LIg κ R A) (b n : Nat) (Gr H : Nat → Nat) (hg : LGg κ R A b) (hb : 200 ≤ b) (h1 : cgr I A b n Gr) (hH : ∀ c, H c ≤ 50) (hge : ∀ c, 0 < cnt Gr n c → 1 ≤ H c) (hcx : cix I A H) : Ct l mX3_remove 0 0 g [.ref (A 3), .ref (A b)] κ I R J (Sv κ R J (fun I1 => cix I1 A (fun c => H c - oc Gr n c) ∧ Fix A I I1)) := by
  refine ct_of (by decide) (Nat.le_of_ble_eq_true rfl) ?_
  intro z hz hr hrc hrs
  have hz : Am z cX3_remove RX3 4 1 := hz
  have hr : Rt z yX3_remove none 0 0 _ := hr
  show V z 4 0 0 0 [(0, .ref (A 3)), (1, .ref (A b))] [] κ I R J
  obtain ⟨hk, ho3, hR0, hK4, hN4, ho4⟩ := id hx
  have hne : A 3 ≠ A 4 := tag_ne ho3 ho4 (by decide)
  refine v_ic (v := nI 0) hz dX3_remove_0 (by decide) ?_
  refine v_istore_n hz dX3_remove_1 (by decide) rfl ?_
  exact v_sub (lp_X3_remove hx hz hg hb h1 hH hge hr (n + 1) 0 I (by omega) (by omega) (hcx.to (fun c => by show H c = H c - 0; omega)) (fun _ _ _ => rfl)) ⟨rfl, rfl, rfl, trivial⟩
