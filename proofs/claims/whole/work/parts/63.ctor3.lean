set_option maxHeartbeats 4000000 in
set_option maxRecDepth 100000 in
theorem lp_fdi {z : Zz} {κ0 : Kz} {I0 : Iz} {R0 : Rz} {A0 : Nat → Nat} {a : Nat} (hz : Am z cX2_init RX2 2 2) (hrc : 1 + 5 * 12 ≤ (zR z).cells) (hrs : 12 + 78 * 12 ≤ (zR z).slots) (K : ∀ (κ : Kz) (I : Iz) (R : Rz) (J : Jz) (A : Nat → Nat), Ob (fun t => (11 ≤ t ∧ t < 15) ∨ (65 ≤ t ∧ t < 125)) κ0 I0 R0 A0 a 11 2 (fun _ => 0) [(0, 11, 12, 12)] κ I R A → (∀ j, j < 12 → R (A 12) j = some (A (65 + 5 * j)) ∧ LCg κ R A (65 + 5 * j) ∧ ZC κ I A (65 + 5 * j) ((65 + 5 * j) + 5)) → V z 2 (1 + 5 * 12) (12 + 78 * 12) 43 [(0, .ref a)] [] κ I R J) :
    ∀ (m i : Nat) (κ : Kz) (I : Iz) (R : Rz) (J : Jz) (A : Nat → Nat), i ≤ 12 → 13 ≤ i + m → Ob (fun t => (11 ≤ t ∧ t < 15) ∨ (65 ≤ t ∧ t < 125)) κ0 I0 R0 A0 a 11 2 (fun _ => 0) [(0, 11, 12, 12)] κ I R A → (∀ j, j < i → R (A 12) j = some (A (65 + 5 * j)) ∧ LCg κ R A (65 + 5 * j) ∧ ZC κ I A (65 + 5 * j) ((65 + 5 * j) + 5)) → V z 2 (1 + 5 * i) (12 + 78 * i) 15 [(0, .ref a), (1, .int (nI i))] [] κ I R J := by
  intro m
  induction m with
  | zero => intro i κ I R J A hi hm9; exact absurd hm9 (by omega)
  | succ m ih =>
  intro i κ I R J A hi hm9 ob hrow
  have ka := ob.2.2.1.2.1
  obtain ⟨⟨f1, f2, f3, f4, f5⟩, -, -, -⟩ := ob.2.2.2 (0, 11, 12, 12) (by simp)
  have f1 : R a 0 = some (A 12) := f1
  have f2 : κ.1 (A 12) = 11 := f2
  have f3 : κ.2.1 (A 12) = 12 := f3
  have f4 : κ.2.2 (A 12) = 12 := f4
  refine v_iload_n hz dX2_init_15 rfl ?_
  refine v_aload_n hz dX2_init_16 rfl ?_
  refine v_getR hz fX2_11 (by assumption) f1 dX2_init_17 ?_
  refine v_alenN hz (by omega) f3 dX2_init_20 ?_
  with_reducible refine v_icmp_geN hz 43 (by omega) (by omega) dX2_init_21 (by decide) (fun c21 => ?_) (fun c21 => ?_)
  · have e : i = 12 := by omega
    subst e
    exact v_sub (K κ I R J A ob hrow) ⟨rfl, trivial⟩
  · refine v_aload_n hz dX2_init_24 rfl ?_
    refine v_getR hz fX2_11 (by assumption) f1 dX2_init_25 ?_
    refine v_iload_n hz dX2_init_28 rfl ?_
    refine v_new hz cl1 tyX1_ok dfX1 (tg_mem 273 (by decide +kernel) rfl) (tg_mem 208 (by decide +kernel) rfl) (tg_mem 79 (by decide +kernel) rfl) ((65 + 5 * i)) A ⟨by omega, by omega⟩ dX2_init_29 (fun q1 κ1 I1 R1 J1 A1 hw1 => ?_)
    obtain ⟨x11, x12, x13, x14, x15, x16, x17, x18⟩ := hw1
    refine v_dup hz dX2_init_32 rfl ?_
    refine v_callIn hz lX2_17 rfl rfl (cX1_init_ok _ _ _ _ _ _ A1 q1 (65 + 5 * i) x12 x13 x15 x16) rfl rfl (Nat.le_of_ble_eq_true rfl) (by decide) ⟨by omega, by omega⟩ dX2_init_33 (fun κ2 I2 R2 J2 hc2 => ?_)
    obtain ⟨A2, e2, eb2, el2, ez2⟩ := hc2
    have eA : A2 12 = A 12 := (e2.2.1 _ (by omega)).trans (x11.2.1 _ (by omega))
    have oc1 := ob.ex x11 (fun t ht => by omega) (by omega) (by (try simp only [List.mem_cons, List.not_mem_nil, or_false, forall_eq_or_imp, forall_eq, false_implies, implies_true]); first | done | omega)
    have oc2 := oc1.ex e2 (fun t ht => by omega) (by omega) (by (try simp only [List.mem_cons, List.not_mem_nil, or_false, forall_eq_or_imp, forall_eq, false_implies, implies_true]); first | done | omega)
    obtain ⟨⟨g1, g2, g3, g4, g5⟩, -, -, -⟩ := oc2.2.2.2 (0, 11, 12, 12) (by simp)
    have g2 : κ2.1 (A2 12) = 11 := g2
    have g3 : κ2.2.1 (A2 12) = 12 := g3
    have g4 : κ2.2.2 (A2 12) = 12 := g4
    rw [← eA]
    refine v_aastN hz (t0 := 2) (ci := 1) g2 rfl (show κ2.1 q1 = 1 from (by rw [← eb2]; exact el2.1)) rfl (by decide) (by decide) g3 (by omega) (by decide) dX2_init_36 ?_
    first | refine v_iincN hz 1 dX2_init_37 (by decide) rfl (by decide) rfl ?_ | refine v_iinc hz dX2_init_37 rfl (by decide) rfl ?_
    refine v_goto hz 15 dX2_init_40 (by decide) ?_
    have ow := oc2.arr (t := 12) (j := i) (y := some q1) g4 (by omega) (by omega)
    have ep : Ex (fun t => t = 12) κ2 I2 R2 A2 κ2 I2 (u2 R2 (A2 12) i (some q1)) A2 := Ex.rf.putR (fun _ => g4)
    have eq : Ex (fun t => t = 12 ∨ ((65 + 5 * i) ≤ t ∧ t < (65 + 5 * i) + 5)) κ I R A κ2 I2 (u2 R2 (A2 12) i (some q1)) A2 := (x11.wid (fun t ht => by omega)).tr ((e2.wid (fun t ht => by omega)).tr (ep.wid (fun t ht => by omega)))
    refine v_sub (ih (i + 1) κ2 I2 _ J2 A2 (by omega) (by omega) ow (fun j hj => ?_)) ⟨rfl, rfl, trivial⟩
    by_cases e : j = i
    · rw [e, u2_eq, eb2]
      exact ⟨rfl, el2.ex ep (fun t h1 h2 => by omega), ez2.ex ep (fun t h1 h2 => by omega)⟩
    · obtain ⟨y1, y2, y3⟩ := hrow j (by omega)
      refine ⟨?_, y2.ex eq (fun t h1 h2 => by omega), y3.ex eq (fun t h1 h2 => by omega)⟩
      obtain ⟨s1, s2, s3, s4, s5, s6⟩ := ((x11.wid (T2 := fun t => (65 + 5 * i) ≤ t ∧ t < (65 + 5 * i) + 5) (fun t ht => by omega)).tr (e2.wid (fun t ht => by omega))).sm (t := 12) (by rw [f2]; decide) f4 (by omega)
      rw [u2_at e, s1, s6, eq.2.1 (65 + 5 * j) (by omega)]
      exact y1
set_option maxHeartbeats 4000000 in
set_option maxRecDepth 100000 in
theorem cX2_init_ok (l : Launch) (g : Gz) (κ : Kz) (I : Iz) (R : Rz) (J : Jz) (A : Nat → Nat) (a : Nat) (ha : A 11 = a) (hk : κ.1 a = 2) (ho : κ.2.2 a = 11) (hI : I a = fun _ => 0) : Ct l mX2_init 63 968 g [.ref a] κ I R J (Sn (fun κ1 I1 R1 => ∃ A1, Ex (fun t => (11 ≤ t ∧ t < 15) ∨ (65 ≤ t ∧ t < 125)) κ I R A κ1 I1 R1 A1 ∧ A1 11 = a ∧ LFg κ1 R1 A1 ∧ κ1.2.2 (A1 12) = 12 ∧ ZC κ1 I1 A1 11 15 ∧ ZC κ1 I1 A1 65 125)) := by
  refine ct_of (by decide) (Nat.le_of_ble_eq_true rfl) ?_
  intro z hz hr hrc hrs
  have hz : Am z cX2_init RX2 2 2 := hz
  have hr : Rt z yX2_init none 63 968 _ := hr
  show V z 2 0 0 0 [(0, .ref a)] [] κ I R J
  have ob0 : Ob (fun t => (11 ≤ t ∧ t < 15) ∨ (65 ≤ t ∧ t < 125)) κ I R A a 11 2 (fun _ => 0) [] κ I R A := Ob.st ha hk (by decide) ho hI (by omega)
  refine v_aload_n hz dX2_init_0 rfl ?_
  refine v_objInit hz (tg_mem 272 (by decide +kernel) rfl) (tg_mem 89 (by decide +kernel) rfl) (tg_mem 90 (by decide +kernel) rfl) (by decide) (Nat.le_of_ble_eq_true rfl) dX2_init_1 ?_
  refine v_aload_n hz dX2_init_4 rfl ?_
  refine v_bi (v := nI 12) hz dX2_init_5 (by decide) ?_
  refine v_anew hz (t0 := 2) (12) A (tg_mem 273 (by decide +kernel) rfl) (fun _ _ h => h.2.2.1) rfl (by decide) (by decide) ⟨by omega, by omega⟩ dX2_init_7 (fun q1 κ1 I1 R1 J1 A1 hw1 => ?_)
  obtain ⟨x11, x12, x13, x14, x15, x16, x17, x18⟩ := hw1
  have oc1 := ob0.ex x11 (fun t ht => by omega) (by omega) (by (try simp only [List.mem_cons, List.not_mem_nil, or_false, forall_eq_or_imp, forall_eq, false_implies, implies_true]); first | done | omega)
  have ka1 := oc1.2.2.1.2.1
  refine v_putR (f := 0) (ty := (.array (.object "NearPhrases$Comparison"))) hz hr rfl cl2 (by decide) rfl (by decide +kernel) rfl (tg_mem 276 (by decide +kernel) rfl) ka1 rfl rfl dX2_init_10 ?_
  have ob1 := oc1.put (f := 0) (k := 11) (n := 12) (t := 12) (by rw [x12]; exact x13) (by decide) (by rw [x12]; exact x14) (by rw [x12]; exact x15) (by rw [x12]; exact x16) (by omega) (by omega) (by (try simp only [List.mem_cons, List.not_mem_nil, or_false, forall_eq_or_imp, forall_eq, false_implies, implies_true]); first | done | omega)
  rw [x12] at ob1
  refine v_ic (v := nI 0) hz dX2_init_13 (by decide) ?_
  refine v_istore_n hz dX2_init_14 (by decide) rfl ?_
  refine v_sub (lp_fdi hz (by omega) (by omega) (fun κ I R J A ob hrow => ?_) 13 0 κ1 I1 _ J1 A1 (by omega) (by omega) ob1 (fun j hj => absurd hj (Nat.not_lt_zero j))) ⟨rfl, rfl, trivial⟩
  refine v_aload_n hz dX2_init_43 rfl ?_
  refine v_bi (v := nI 12) hz dX2_init_44 (by decide) ?_
  refine v_newI hz (13) A (by decide) ⟨by omega, by omega⟩ dX2_init_46 (fun q2 κ2 I2 R2 J2 A2 hw2 => ?_)
  obtain ⟨x21, x22, x23, x24, x25, x26, x27, x28⟩ := hw2
  have oc2 := ob.ex x21 (fun t ht => by omega) (by omega) (by (try simp only [List.mem_cons, List.not_mem_nil, or_false, forall_eq_or_imp, forall_eq, false_implies, implies_true]); first | done | omega)
  have ka2 := oc2.2.2.1.2.1
  refine v_putR (f := 1) (ty := (.array .int)) hz hr rfl cl2 (by decide) rfl (by decide +kernel) rfl (tg_mem 278 (by decide +kernel) rfl) ka2 rfl rfl dX2_init_48 ?_
  have ob2 := oc2.put (f := 1) (k := 9) (n := 12) (t := 13) (by rw [x22]; exact x23) (by decide) (by rw [x22]; exact x24) (by rw [x22]; exact x25) (by rw [x22]; exact x26) (by omega) (by omega) (by (try simp only [List.mem_cons, List.not_mem_nil, or_false, forall_eq_or_imp, forall_eq, false_implies, implies_true]); first | done | omega)
  rw [x22] at ob2
  refine v_aload_n hz dX2_init_51 rfl ?_
  refine v_bi (v := nI 8) hz dX2_init_52 (by decide) ?_
  refine v_newZ hz (14) A2 (by decide) ⟨by omega, by omega⟩ dX2_init_54 (fun q3 κ3 I3 R3 J3 A3 hw3 => ?_)
  obtain ⟨x31, x32, x33, x34, x35, x36, x37, x38⟩ := hw3
  have oc3 := ob2.ex x31 (fun t ht => by omega) (by omega) (by (try simp only [List.mem_cons, List.not_mem_nil, or_false, forall_eq_or_imp, forall_eq, false_implies, implies_true]); first | done | omega)
  have ka3 := oc3.2.2.1.2.1
  refine v_putR (f := 2) (ty := (.array .boolean)) hz hr rfl cl2 (by decide) rfl (by decide +kernel) rfl (tg_mem 280 (by decide +kernel) rfl) ka3 rfl rfl dX2_init_56 ?_
  have ob3 := oc3.put (f := 2) (k := 10) (n := 8) (t := 14) (by rw [x32]; exact x33) (by decide) (by rw [x32]; exact x34) (by rw [x32]; exact x35) (by rw [x32]; exact x36) (by omega) (by omega) (by (try simp only [List.mem_cons, List.not_mem_nil, or_false, forall_eq_or_imp, forall_eq, false_implies, implies_true]); first | done | omega)
  rw [x32] at ob3
  have eR : Ex (fun t => t = 11 ∨ t = 13 ∨ t = 14) κ I R A κ3 I3 (u2 R3 a 2 (some q3)) A3 := (((x21.wid (fun t ht => by omega)).putR (fun _ => by rw [ob.2.2.1.2.2.2.1]; exact Or.inl rfl)).tr (x31.wid (fun t ht => by omega))).putR (fun _ => by rw [ob.2.2.1.2.2.2.1]; exact Or.inl rfl)
  obtain ⟨e0, e1, ⟨e2, e3, e4, e5, e6⟩, e7⟩ := ob3
  obtain ⟨⟨f1, f2, f3, f4, f5⟩, -, -, -⟩ := e7 (0, 11, 12, 12) (by simp)
  obtain ⟨⟨g1, g2, g3, g4, g5⟩, -, -, -⟩ := e7 (1, 9, 12, 13) (by simp)
  obtain ⟨⟨h1, h2, h3, h4, h5⟩, -, -, -⟩ := e7 (2, 10, 8, 14) (by simp)
  obtain ⟨⟨y1, y2, y3, y4, y5⟩, -, -, -⟩ := ob.2.2.2 (0, 11, 12, 12) (by simp)
  have y2 : κ.1 (A 12) = 11 := y2
  have y4 : κ.2.2 (A 12) = 12 := y4
  obtain ⟨s1, s2, s3, s4, s5, s6⟩ := eR.sm (t := 12) (by rw [y2]; decide) y4 (by omega)
  refine v_vret0 hz hr dX2_init_59 ⟨rfl, A3, e1, e2, ⟨by rw [e2]; exact e3, by rw [e2]; exact e5, ⟨by rw [e2]; exact f1, f2, f3, fun i hi => ?_⟩, ⟨by rw [e2]; exact g1, g2, g3, g4⟩, ⟨by rw [e2]; exact h1, h2, h3, h4⟩⟩, f4, ?_, fun t h1 h2 => ?_⟩
  · obtain ⟨z1, z2, z3⟩ := hrow i hi
    exact ⟨by rw [s1, s6, eR.2.1 (65 + 5 * i) (by omega)]; exact z1, z2.ex eR (fun t h1 h2 => by omega)⟩
  · exact (((ZC.one (t := 11) (by rw [e2, e3]; decide) (by rw [e2]; exact e5) (by rw [e2]; exact e6)).app (ZC.one (by rw [f2]; show (11 : Nat) < 15; decide) f4 f5)).app (ZC.one (by rw [g2]; show (9 : Nat) < 15; decide) g4 g5)).app (ZC.one (by rw [h2]; show (10 : Nat) < 15; decide) h4 h5)
  · obtain ⟨z1, z2, z3⟩ := hrow ((t - 65) / 5) (by omega)
    exact (z3.ex eR (fun t h1 h2 => by omega)) t (by omega) (by omega)
