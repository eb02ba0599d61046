/-! ===== the law: its loop, its beginning ===== -/
theorem sub_lt5 {i L : Nat} (hi : i < 1000000) (hL : L < 1000000) : (nI L - nI 5 < nI i) ↔ L < i + 5 := by
  by_cases h5 : 5 ≤ L
  · rw [pk_sub h5, nI_ltI (by omega) (by omega)]
    omega
  · refine ⟨fun _ => by omega, fun _ => ?_⟩
    refine Int32.lt_iff_toInt_lt.mpr ?_
    rw [nI_toInt (show i < 2147483648 by omega)]
    have : (nI L - nI 5 : Int32).toInt < 0 := by
      rcases (show L = 0 ∨ L = 1 ∨ L = 2 ∨ L = 3 ∨ L = 4 by omega) with rfl | rfl | rfl | rfl | rfl <;> decide
    omega
section
variable {T : Nat → Prop} {κ κ1 : Kz} {I I1 : Iz} {R R1 : Rz} {A A1 sb : Nat → Nat}
theorem LNg.ex (h : LNg κ R A sb) (e : Ex T κ I R A κ1 I1 R1 A1) (hO : κ.2.2 (A 5) = 5 ∧ κ.2.2 (A 6) = 6 ∧ κ.2.2 (A 7) = 7 ∧ κ.2.2 (A 12) = 12) (hT : ∀ t, T t → 130 ≤ t ∧ t < 160) : LNg κ1 R1 A1 sb := by
  obtain ⟨k9, o9, ⟨r0, r1, r2, r3, r4, r5, r6⟩, ⟨k10, n10, o10⟩, hsh, hgap, hp, hx, ha, hc, hf, hq⟩ := h
  have nT : ∀ t, (t < 130 ∨ 160 ≤ t) → ¬ T t := fun t h q => by have := hT t q; omega
  have eA : ∀ t, (t < 130 ∨ 160 ≤ t) → A1 t = A t := fun t h => e.2.1 t (nT t h)
  obtain ⟨s1, s2, s3, s4, s5, s6⟩ := e.sm (t := 9) (by rw [k9]; decide) o9 (nT _ (by omega))
  obtain ⟨t1, t2, t3, t4, t5, t6⟩ := e.sm (t := 10) (by rw [k10]; decide) o10 (nT _ (by omega))
  refine ⟨by rw [s1, s2]; exact k9, by rw [s1, s4]; exact o9, ?_, ?_, fun i hi => ?_, hgap, hp.ex e (nT _ (by omega)) (nT _ (by omega)), hx.ex e (nT _ (by omega)) (nT _ (by omega)), ha.ex e ⟨hO.1, hO.2.1, hO.2.2.1⟩ (fun t ht => nT t (by rcases ht with h | h | h | (h | h | h) <;> omega)), hc.ex e (fun t h1 h2 => nT t (by omega)), hf.ex e hO.2.2.2 (fun t ht => nT t (by omega)), hq.ex e (fun t h1 h2 => nT t (by omega))⟩
  · rw [s1, s6, eA 1 (by omega), eA 10 (by omega), eA 460 (by omega), eA 3 (by omega), eA 5 (by omega), eA 60 (by omega), eA 11 (by omega)]
    exact ⟨r0, r1, r2, r3, r4, r5, r6⟩
  · rw [t1, t2, t3, t4]
    exact ⟨k10, n10, o10⟩
  · obtain ⟨q1, q2, q3, q4⟩ := hsh i hi
    exact ⟨by rw [t1, t6, eA (sb i) (by omega)]; exact q1, q2, q3, q4.ex e (fun t h1 h2 => nT t (by omega))⟩
end
/-- where the reference has no row of its own: the reference itself -/
def fxA (A : Nat → Nat) (t : Nat) : Nat := if (130 ≤ t ∧ t < 160) ∧ ¬ (t - 130) ∈ mT then A 130 else A t
theorem fxA_o {A : Nat → Nat} {t : Nat} (h : t < 130 ∨ 160 ≤ t) : fxA A t = A t := if_neg (by omega)
theorem fxA_f {A : Nat → Nat} {f : Nat} (h : f ∈ mT) : fxA A (130 + f) = A (130 + f) := if_neg (fun q => q.2 (by rw [show 130 + f - 130 = f by omega]; exact h))
theorem LM.fx {κ : Kz} {R : Rz} {A : Nat → Nat} (h : LM κ R A) : LM κ R (fxA A) := by
  have e0 : fxA A 130 = A 130 := fxA_f (f := 0) (by decide)
  have hm : ∀ x ∈ mArr, x.1 ∈ mT := by decide
  unfold LM
  rw [e0]
  exact ⟨h.1, h.2.1, fun f t n hf => by rw [fxA_f (hm _ hf)]; exact h.2.2 f t n hf⟩
theorem fxA_t {κ : Kz} {R : Rz} {A : Nat → Nat} (h : LM κ R A) : ∀ t, 130 ≤ t → t < 160 → 130 ≤ κ.2.2 (fxA A t) ∧ κ.2.2 (fxA A t) < 160 := fun t h1 h2 => by
  have hm : ∀ f ∈ mT, f = 0 ∨ ∃ x ∈ mArr, x.1 = f := by decide
  unfold fxA
  by_cases e : (t - 130) ∈ mT
  · rw [if_neg (fun q => q.2 e)]
    rcases hm _ e with e0 | ⟨⟨f, k, n⟩, hx, hf⟩
    · rw [show t = 130 by omega, h.2.1]; decide
    · have hf : f = t - 130 := hf
      have := (h.2.2 f k n hx).2.2.2
      rw [show 130 + f = t by omega] at this
      rw [this]; exact ⟨h1, h2⟩
  · rw [if_pos ⟨⟨h1, h2⟩, e⟩, h.2.1]; decide
theorem cs0 {I : Iz} {A sb : Nat → Nat} (h9 : I (A 9) = (va_up (va_up (va_up (fun _ => 0) 8 (nI 5)) 9 (nI 700)) 13 (nI 1))) (h1 : I (A 1) = fun _ => 0) (h3 : I (A 3) = fun _ => 0) (h4 : I (A 4) = fun _ => 0) (pg : Nat → Nat) (ks : Nat → Sg) (tm : Nat → Int32) (T : Sg) : CS I A sb pg 0 0 ks tm T 0 5 700 0 0 := by
  have hk0 : kzn (hlm ccode ks 0) = 0 := by
    unfold kzn hlm
    exact smw_z (fun c => by show (if 0 < sm _ 0 then 1 else 0) = 0; rfl)
  refine ⟨⟨by decide, ?_, fun j hj => absurd hj (Nat.not_lt_zero j)⟩, ⟨by decide, ?_, fun j hj => absurd hj (Nat.not_lt_zero j)⟩, ⟨?_, fun q => absurd q (Nat.lt_irrefl 0)⟩, ⟨?_, by decide, by decide, ?_, by decide⟩, ⟨?_, ?_⟩, ⟨fun c hc => ⟨?_, Nat.le_trans (hlm_le _ _ _ _) (by decide)⟩, ?_⟩, ⟨Or.inr ?_, fun q => ?_⟩⟩
  · rw [h1]; rfl
  · rw [h9]; rfl
  · rw [h9]; rfl
  · rw [h9]; rfl
  · rw [h9]; rfl
  · rw [h9]; rfl
  · rw [h9]; rfl
  · rw [h4]; rfl
  · rw [h3, hk0]; rfl
  · rw [h9]; rfl
  · rw [h9] at q
    exact absurd q (by decide)
theorem ms0 {I : Iz} {A : Nat → Nat} (h : I (A 130) = (va_up (va_up (fun _ => 0) 9 (nI 5)) 10 (nI 700))) (pg : Nat → Nat) (ks : Nat → Sg) (tm : Nat → Int32) (T : Sg) : MS I A pg 0 0 ks tm T 0 5 700 0 0 := by
  refine ⟨⟨by decide, ?_, fun j hj => absurd hj (Nat.not_lt_zero j)⟩, ⟨by decide, ?_, fun j hj => absurd hj (Nat.not_lt_zero j)⟩, ⟨?_, ?_, fun q => absurd q (Nat.lt_irrefl 0)⟩, ⟨⟨?_, by decide, by decide⟩, ?_, by decide⟩, ?_, ?_⟩ <;> rw [h] <;> rfl
set_option maxHeartbeats 4000000 in
set_option maxRecDepth 100000 in
theorem lw_loop {z : Zz} {b L k ns : Nat} {xs : Nat → Int32} {κ : Kz} {A : Nat → Nat} (hw : LW z b L xs) (hkc : k ≤ (zR z).cells) (hks : ns ≤ (zR z).slots) (hk6 : k ≤ 600000) (hn7 : ns ≤ 7302250) (hA : ∀ t, 130 ≤ t → t < 160 → 130 ≤ κ.2.2 (A t) ∧ κ.2.2 (A t) < 160) :
    ∀ (m i : Nat) (I : Iz) (R : Rz) (J : Jz) (sb : Nat → Nat) (pg : Nat → Nat) (n kn : Nat) (ks : Nat → Sg) (tm : Nat → Int32) (T : Sg) (qa w bd : Nat) (te td : Int32), i ≤ L → L + 1 ≤ i + m → Inv κ R A sb I pg n kn ks tm T qa w bd te td → qa ≤ i → V z 4 k ns 18 [(0, .ref b), (1, .ref (A 9)), (2, .ref (A 130)), (3, .int (nI i))] [] κ I R J := by
  have hz := hw.1
  have hL := hw.2.2.2.2.2.2.2.2.2
  intro m
  induction m with
  | zero => intro i I R J sb pg n kn ks tm T qa w bd te td hi hm9; exact absurd hm9 (by omega)
  | succ m ih =>
  intro i I R J sb pg n kn ks tm T qa w bd te td hi hm9 inv hqi
  refine v_iload_n hz dL_law_18 rfl ?_
  refine v_aload_n hz dL_law_19 rfl ?_
  refine v_slen hw dL_law_20 ?_
  refine v_ic (v := nI 5) hz dL_law_21 (by decide) ?_
  refine v_isub hz dL_law_22 ?_
  refine v_icmp_gt hz 665 dL_law_23 (by decide) (fun c23 => ?_) (fun c23 => ?_)
  · refine v_ic (v := nI 1) hz dL_law_665 (by decide) ?_
    exact v_lawret hw hk6 hn7 dL_law_666
  · have h5 : i + 5 ≤ L := Nat.not_lt.mp (fun q => c23 ((sub_lt5 (by omega) (by omega)).mpr q))
    have nx : Nx z k ns b i qa κ A := by
      intro I' R' J' sb' pg' n' kn' ks' tm' T' qa' w' bd' te' td' hI hq
      first | refine v_iincN hz 5 dL_law_659 (by decide) rfl (by decide) rfl ?_ | refine v_iinc hz dL_law_659 rfl (by decide) rfl ?_
      refine v_goto hz 18 dL_law_662 (by decide) ?_
      exact v_sub (ih (i + 5) I' R' J' sb' pg' n' kn' ks' tm' T' qa' w' bd' te' td' (by omega) (by omega) hI (by omega)) ⟨rfl, rfl, rfl, rfl, trivial⟩
    refine v_aload_n hz dL_law_26 rfl ?_
    refine v_iload_n hz dL_law_27 rfl ?_
    refine v_sld hw (by omega) dL_law_28 ?_
    refine v_bi (v := nI 31) hz dL_law_29 (by decide) ?_
    refine v_iand hz dL_law_31 ?_
    refine v_tsw hz 0 19 [128, 151, 164, 177, 190, 213, 226, 249, 272, 305, 348, 401, 444, 477, 510, 553, 576, 599, 622, 645] 659 dL_law_32 ⟨rfl, rfl⟩ (by decide) (by decide) (by decide) (fun j32 hj1_32 hj2_32 c32 => ?_) (fun c32 => ?_)
    · rcases (show j32 = 0 ∨ j32 = 1 ∨ j32 = 2 ∨ j32 = 3 ∨ j32 = 4 ∨ j32 = 5 ∨ j32 = 6 ∨ j32 = 7 ∨ j32 = 8 ∨ j32 = 9 ∨ j32 = 10 ∨ j32 = 11 ∨ j32 = 12 ∨ j32 = 13 ∨ j32 = 14 ∨ j32 = 15 ∨ j32 = 16 ∨ j32 = 17 ∨ j32 = 18 ∨ j32 = 19 by omega) with rfl | rfl | rfl | rfl | rfl | rfl | rfl | rfl | rfl | rfl | rfl | rfl | rfl | rfl | rfl | rfl | rfl | rfl | rfl | rfl
      · refine v_pc (pc' := 128) rfl ?_
        exact lw_letter hw hkc hks (by omega) hA inv (by omega) nx
      · refine v_pc (pc' := 151) rfl ?_
        exact lw_blank hw hkc hks (by omega) hA inv (by omega) nx
      · refine v_pc (pc' := 164) rfl ?_
        exact lw_fault hw hkc hks (by omega) hA inv (by omega) nx
      · refine v_pc (pc' := 177) rfl ?_
        exact lw_keep hw hkc hks (by omega) hA inv (by omega) nx
      · refine v_pc (pc' := 190) rfl ?_
        exact lw_drop hw hkc hks (by omega) hA inv (by omega) nx
      · refine v_pc (pc' := 213) rfl ?_
        exact lw_ask hw hkc hks (by omega) hA inv (by omega) nx
      · refine v_pc (pc' := 226) rfl ?_
        exact lw_weight hw hkc hks (by omega) hA inv (by omega) nx
      · refine v_pc (pc' := 249) rfl ?_
        exact lw_bound hw hkc hks (by omega) hA inv (by omega) nx
      · refine v_pc (pc' := 272) rfl ?_
        exact lw_segment hw hkc hks (by omega) hA inv (by omega) nx
      · refine v_pc (pc' := 305) rfl ?_
        exact lw_sign hw hkc hks (by omega) hA inv (by omega) nx
      · refine v_pc (pc' := 348) rfl ?_
        exact lw_alike hw hkc hks (by omega) hA inv (by omega) nx
      · refine v_pc (pc' := 401) rfl ?_
        exact lw_two hw hkc hks (by omega) hA inv (by omega) nx
      · refine v_pc (pc' := 444) rfl ?_
        exact lw_gram hw hkc hks (by omega) hA inv (by omega) nx
      · refine v_pc (pc' := 477) rfl ?_
        exact lw_near hw hkc hks (by omega) hA inv (by omega) nx
      · refine v_pc (pc' := 510) rfl ?_
        exact lw_step hw hkc hks (by omega) hA inv (by omega) nx
      · refine v_pc (pc' := 553) rfl ?_
        exact lw_rank hw hkc hks (by omega) hA inv (by omega) nx
      · refine v_pc (pc' := 576) rfl ?_
        exact lw_question hw hkc hks (by omega) hA inv (by omega) nx
      · refine v_pc (pc' := 599) rfl ?_
        exact lw_covered hw hkc hks (by omega) hA inv (by omega) nx
      · refine v_pc (pc' := 622) rfl ?_
        exact lw_count hw hkc hks (by omega) hA inv (by omega) nx
      · refine v_pc (pc' := 645) rfl ?_
        exact lw_digest hw hkc hks (by omega) hA inv (by omega) nx
    · exact nx I R J sb pg n kn ks tm T qa w bd te td inv (by omega)
set_option maxHeartbeats 4000000 in
set_option maxRecDepth 100000 in
theorem lw_begin {z : Zz} {b L : Nat} {xs : Nat → Int32} {J : Jz} (hw : LW z b L xs) : V z 4 0 0 0 [(0, .ref b)] [] ((fun _ => 15, fun _ => 0, fun _ => 0) : Kz) (fun _ _ => 0) (fun _ _ => none) J := by
  have hz := hw.1
  have hrc : (zR z).cells = 600000 := by rw [hw.2.1]; rfl
  have hrs : (zR z).slots = 7302250 := by rw [hw.2.1]; rfl
  refine v_new hz cl7 tyX7_ok dfX7 (tg_mem 83 (by decide +kernel) rfl) (tg_mem 84 (by decide +kernel) rfl) (tg_mem 73 (by decide +kernel) rfl) (9) (fun _ => 0) ⟨by omega, by omega⟩ dL_law_0 (fun q1 κ1 I1 R1 J1 A1 hw1 => ?_)
  obtain ⟨x11, x12, x13, x14, x15, x16, x17, x18⟩ := hw1
  refine v_dup hz dL_law_3 rfl ?_
  refine v_callIn hz lL_9 rfl rfl (cX7_init_ok _ _ _ _ _ _ A1 q1 x12 x13 x15 x16) rfl rfl (Nat.le_of_ble_eq_true rfl) (by decide) ⟨by omega, by omega⟩ dL_law_4 (fun κ2 I2 R2 J2 hc2 => ?_)
  obtain ⟨A2, e2, eb2, hn2, hO2, z9, z1, z3, z4⟩ := hc2
  refine v_astore_n hz dL_law_7 (by decide) rfl ?_
  refine v_new hz cl8 tyX8_ok dfX8 (tg_mem 690 (by decide +kernel) rfl) (tg_mem 691 (by decide +kernel) rfl) (tg_mem 81 (by decide +kernel) rfl) (130) A2 ⟨by omega, by omega⟩ dL_law_8 (fun q3 κ3 I3 R3 J3 A3 hw3 => ?_)
  obtain ⟨x31, x32, x33, x34, x35, x36, x37, x38⟩ := hw3
  refine v_dup hz dL_law_11 rfl ?_
  refine v_callIn hz lL_12 rfl rfl (cX8_init_ok _ _ _ _ _ _ A3 q3 x32 x33 x35 x36) rfl rfl (Nat.le_of_ble_eq_true rfl) (by decide) ⟨by omega, by omega⟩ dL_law_12 (fun κ4 I4 R4 J4 hc4 => ?_)
  obtain ⟨A4, e4, eb4, hm4, hI4⟩ := hc4
  refine v_astore_n hz dL_law_15 (by decide) rfl ?_
  refine v_ic (v := nI 0) hz dL_law_16 (by decide) ?_
  refine v_istore_n hz dL_law_17 (by decide) rfl ?_
  have ex : Ex (fun t => 130 ≤ t ∧ t < 160) κ2 I2 R2 A2 κ4 I4 R4 A4 := (x31.wid (fun t ht => by omega)).tr e4
  have ef : Ex (fun t => 130 ≤ t ∧ t < 160) κ2 I2 R2 A2 κ4 I4 R4 (fxA A4) := ⟨ex.1, fun t ht => (fxA_o (by omega)).trans (ex.2.1 t ht), ex.2.2⟩
  have hn4 := hn2.ex ef hO2 (fun t ht => ht)
  have s9 := ef.sm (t := 9) (by rw [hn2.1]; decide) hn2.2.1 (by omega)
  have hp2 := hn2.2.2.2.2.2.2.1
  have hx2 := hn2.2.2.2.2.2.2.2.1
  have s1 := ef.sm (t := 1) (by rw [hp2.1]; decide) hp2.2.2.2.2.1 (by omega)
  have s3 := ef.sm (t := 3) (by rw [hx2.1]; decide) hx2.2.1 (by omega)
  have s4 := ef.sm (t := 4) (by rw [hx2.2.2.2.1]; decide) hx2.2.2.2.2.2 (by omega)
  have e130 : fxA A4 130 = q3 := (fxA_f (f := 0) (by decide)).trans eb4
  have e9 : fxA A4 9 = q1 := s9.1.trans eb2
  have hcs := cs0 (I := I4) (A := fxA A4) (sb := fun i => 200 + 20 * i) (by rw [s9.1, s9.2.2.2.2.1]; exact z9) (by rw [s1.1, s1.2.2.2.2.1]; exact z1) (by rw [s3.1, s3.2.2.2.2.1]; exact z3) (by rw [s4.1, s4.2.2.2.2.1]; exact z4) (fun _ => 0) (fun _ => (0, fun _ => 0, fun _ => 0, fun _ _ => 0)) (fun _ => 0) (0, fun _ => 0, fun _ => 0, fun _ _ => 0)
  have hms := ms0 (I := I4) (A := fxA A4) (by rw [e130]; exact hI4) (fun _ => 0) (fun _ => (0, fun _ => 0, fun _ => 0, fun _ _ => 0)) (fun _ => 0) (0, fun _ => 0, fun _ => 0, fun _ _ => 0)
  rw [← e9, ← e130]
  exact v_sub (lw_loop hw (by omega) (by omega) (by omega) (by omega) (fxA_t hm4) (L + 1) 0 I4 R4 J4 _ _ _ _ _ _ _ _ _ _ _ _ (Nat.zero_le _) (by omega) ⟨hn4, hm4.fx, hcs, hms, fun i hi => absurd hi (Nat.not_lt_zero i), fun q => absurd q (Nat.lt_irrefl 0)⟩ (Nat.le_refl _)) ⟨rfl, rfl, rfl, rfl, trivial⟩
theorem whole_start {p : Program} {e : Env} {s : State} {m : MethodId} {below : List Frame} {meth : Method} {c : Code} (l : Launch) (hflags : l.flags = flags0) {b L : Nat} {xs : Nat → Int32} (hL : L ≤ 2560) (C0 : lw_At p s m meth c b L xs) : W p l e room_1 s m #[Value.ref b] below meth c s.heap [] 0 0 (lw_Z below #[Value.ref b] s) (entryFrame m ([Value.ref b] : List Value).toArray 4) := by
  obtain ⟨hx, hb, hr, hml, hown, hts, hX, hbl, hlocks, hgv⟩ := C0
  obtain ⟨g, hg, hKK⟩ := kk_of hts s.heap.size
  have hz : Am (p, l, e, room_1, s, m, #[Value.ref b], below, meth, c, lw_Z below #[Value.ref b] s, g) cL_law RL 4 14 := ⟨⟨hx, hb, hml, hown, fun w hw => hts w (List.mem_filter.mp hw).1⟩, hKK, (by show g.2.2 ≤ s.heap.size; omega), (by show 14 ≤ room_1.frames; decide), (by show 40 * 14 ≤ room_1.locals; decide)⟩
  have hw : LW (p, l, e, room_1, s, m, #[Value.ref b], below, meth, c, lw_Z below #[Value.ref b] s, g) b L xs := ⟨hz, rfl, rfl, rfl, hr, hlocks, hX, hbl, hg, hL⟩
  have hl := lv_entry [Value.ref b] (n := 4) (Nat.le_of_ble_eq_true rfl)
  rw [lg_entry_eq]
  exact lw_begin (J := fun _ _ => 0) hw _ _ _ (lvh.of hl) (fun a => ⟨fun q => absurd q (Nat.lt_irrefl 15), fun q => absurd q (show ¬ (15 : Nat) < 9 by decide), fun q => absurd q (show ¬ ((15 : Nat) = 9 ∨ (15 : Nat) = 10) by decide), fun q => absurd q (show ¬ (11 ≤ (15 : Nat) ∧ (15 : Nat) < 15) by decide)⟩) va_S.rf
