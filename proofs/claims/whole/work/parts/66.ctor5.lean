set_option maxHeartbeats 4000000 in
set_option maxRecDepth 100000 in
theorem lp_nei {z : Zz} {κs : Kz} {Is : Iz} {Rs : Rz} {As : Nat → Nat} {κ0 : Kz} {I0 : Iz} {R0 : Rz} {A0 : Nat → Nat} {a : Nat} (hz : Am z cX7_init RX7 2 3) (hrc : 3 + 19 * 13 ≤ (zR z).cells) (hrs : 66 + 190 * 13 ≤ (zR z).slots) (K : ∀ (κ : Kz) (I : Iz) (R : Rz) (J : Jz) (A : Nat → Nat), Ob (cT) κ0 I0 R0 A0 a 9 7 (fun _ => 0) [(1, 12, 13, 10), (0, 4, 0, 1)] κ I R A → Ex (fun t => t = 10 ∨ (200 ≤ t ∧ t < 460)) κs Is Rs As κ I R A → (∀ j, j < 13 → R (A 10) j = some (A (200 + 20 * j)) ∧ LGg κ R A (200 + 20 * j) ∧ ZC κ I A (200 + 20 * j) ((200 + 20 * j) + 19)) → V z 2 (3 + 19 * 13) (66 + 190 * 13) 54 [(0, .ref a)] [] κ I R J) :
    ∀ (m i : Nat) (κ : Kz) (I : Iz) (R : Rz) (J : Jz) (A : Nat → Nat), i ≤ 13 → 14 ≤ i + m → Ob (cT) κ0 I0 R0 A0 a 9 7 (fun _ => 0) [(1, 12, 13, 10), (0, 4, 0, 1)] κ I R A → Ex (fun t => t = 10 ∨ (200 ≤ t ∧ t < 460)) κs Is Rs As κ I R A → (∀ j, j < i → R (A 10) j = some (A (200 + 20 * j)) ∧ LGg κ R A (200 + 20 * j) ∧ ZC κ I A (200 + 20 * j) ((200 + 20 * j) + 19)) → V z 2 (3 + 19 * i) (66 + 190 * i) 26 [(0, .ref a), (1, .int (nI i))] [] κ I R J := by
  intro m
  induction m with
  | zero => intro i κ I R J A hi hm9; exact absurd hm9 (by omega)
  | succ m ih =>
  intro i κ I R J A hi hm9 ob hex hrow
  have ka := ob.2.2.1.2.1
  obtain ⟨⟨f1, f2, f3, f4, f5⟩, -, -, -⟩ := ob.2.2.2 (1, 12, 13, 10) (by simp)
  have f1 : R a 1 = some (A 10) := f1
  have f2 : κ.1 (A 10) = 12 := f2
  have f3 : κ.2.1 (A 10) = 13 := f3
  have f4 : κ.2.2 (A 10) = 10 := f4
  refine v_iload_n hz dX7_init_26 rfl ?_
  refine v_aload_n hz dX7_init_27 rfl ?_
  refine v_getR hz fX7_18 (by assumption) f1 dX7_init_28 ?_
  refine v_alenN hz (by omega) f3 dX7_init_31 ?_
  with_reducible refine v_icmp_geN hz 54 (by omega) (by omega) dX7_init_32 (by decide) (fun c32 => ?_) (fun c32 => ?_)
  · have e : i = 13 := by omega
    subst e
    exact v_sub (K κ I R J A ob hex hrow) ⟨rfl, trivial⟩
  · refine v_aload_n hz dX7_init_35 rfl ?_
    refine v_getR hz fX7_18 (by assumption) f1 dX7_init_36 ?_
    refine v_iload_n hz dX7_init_39 rfl ?_
    refine v_new hz cl5 tyX5_ok dfX5 (tg_mem 118 (by decide +kernel) rfl) (tg_mem 120 (by decide +kernel) rfl) (tg_mem 75 (by decide +kernel) rfl) ((200 + 20 * i)) A ⟨by omega, by omega⟩ dX7_init_40 (fun q1 κ1 I1 R1 J1 A1 hw1 => ?_)
    obtain ⟨x11, x12, x13, x14, x15, x16, x17, x18⟩ := hw1
    refine v_dup hz dX7_init_43 rfl ?_
    refine v_callIn hz lX7_22 rfl rfl (cX5_init_ok _ _ _ _ _ _ A1 q1 (200 + 20 * i) x12 x13 x15 x16) rfl rfl (Nat.le_of_ble_eq_true rfl) (by decide) ⟨by omega, by omega⟩ dX7_init_44 (fun κ2 I2 R2 J2 hc2 => ?_)
    obtain ⟨A2, e2, eb2, el2, ez2⟩ := hc2
    have eA : A2 10 = A 10 := (e2.2.1 _ (by omega)).trans (x11.2.1 _ (by omega))
    have oc1 := ob.ex x11 (fun t ht => by unfold cT; omega) (by omega) (by (try simp only [List.mem_cons, List.not_mem_nil, or_false, forall_eq_or_imp, forall_eq, false_implies, implies_true]); first | done | omega)
    have oc2 := oc1.ex e2 (fun t ht => by unfold cT; omega) (by omega) (by (try simp only [List.mem_cons, List.not_mem_nil, or_false, forall_eq_or_imp, forall_eq, false_implies, implies_true]); first | done | omega)
    obtain ⟨⟨g1, g2, g3, g4, g5⟩, -, -, -⟩ := oc2.2.2.2 (1, 12, 13, 10) (by simp)
    have g2 : κ2.1 (A2 10) = 12 := g2
    have g3 : κ2.2.1 (A2 10) = 13 := g3
    have g4 : κ2.2.2 (A2 10) = 10 := g4
    rw [← eA]
    refine v_aastN hz (t0 := 3) (ci := 5) g2 rfl (show κ2.1 q1 = 5 from (by rw [← eb2]; exact el2.1)) rfl (by decide) (by decide) g3 (by omega) (by decide) dX7_init_47 ?_
    first | refine v_iincN hz 1 dX7_init_48 (by decide) rfl (by decide) rfl ?_ | refine v_iinc hz dX7_init_48 rfl (by decide) rfl ?_
    refine v_goto hz 26 dX7_init_51 (by decide) ?_
    have ow := oc2.arr (t := 10) (j := i) (y := some q1) g4 (by omega) (by unfold cT; omega)
    have ep : Ex (fun t => t = 10) κ2 I2 R2 A2 κ2 I2 (u2 R2 (A2 10) i (some q1)) A2 := Ex.rf.putR (fun _ => g4)
    have eq : Ex (fun t => t = 10 ∨ ((200 + 20 * i) ≤ t ∧ t < (200 + 20 * i) + 19)) κ I R A κ2 I2 (u2 R2 (A2 10) i (some q1)) A2 := (x11.wid (fun t ht => by omega)).tr ((e2.wid (fun t ht => by omega)).tr (ep.wid (fun t ht => by omega)))
    refine v_sub (ih (i + 1) κ2 I2 _ J2 A2 (by omega) (by omega) ow (hex.tr (eq.wid (fun t ht => by omega))) (fun j hj => ?_)) ⟨rfl, rfl, trivial⟩
    by_cases e : j = i
    · rw [e, u2_eq, eb2]
      exact ⟨rfl, el2.ex ep (fun t h1 h2 => by omega), ez2.ex ep (fun t h1 h2 => by omega)⟩
    · obtain ⟨y1, y2, y3⟩ := hrow j (by omega)
      refine ⟨?_, y2.ex eq (fun t h1 h2 => by omega), y3.ex eq (fun t h1 h2 => by omega)⟩
      obtain ⟨s1, s2, s3, s4, s5, s6⟩ := ((x11.wid (T2 := fun t => (200 + 20 * i) ≤ t ∧ t < (200 + 20 * i) + 19) (fun t ht => by omega)).tr (e2.wid (fun t ht => by omega))).sm (t := 10) (by rw [f2]; decide) f4 (by omega)
      rw [u2_at e, s1, s6, eq.2.1 (200 + 20 * j) (by omega)]
      exact y1
theorem smw_z {f : Nat → Nat} (h : ∀ c, f c = 0) : ∀ {n : Nat}, smw f n = 0 := by
  intro n
  induction n with
  | zero => unfold smw; rfl
  | succ n ih =>
    unfold smw
    rw [if_neg (by omega), show n + 1 - 1 = n from rfl, ih, h]
set_option maxHeartbeats 4000000 in
set_option maxRecDepth 100000 in
theorem cX7_init_ok (l : Launch) (g : Gz) (κ : Kz) (I : Iz) (R : Rz) (J : Jz) (A : Nat → Nat) (a : Nat) (ha : A 9 = a) (hk : κ.1 a = 7) (ho : κ.2.2 a = 9) (hI : I a = fun _ => 0) : Ct l mX7_init 400 6000 g [.ref a] κ I R J (Sn (fun κ1 I1 R1 => ∃ A1, Ex cT κ I R A κ1 I1 R1 A1 ∧ A1 9 = a ∧ LNg κ1 R1 A1 (fun i => 200 + 20 * i) ∧ (κ1.2.2 (A1 5) = 5 ∧ κ1.2.2 (A1 6) = 6 ∧ κ1.2.2 (A1 7) = 7 ∧ κ1.2.2 (A1 12) = 12) ∧ I1 (A1 9) = (va_up (va_up (va_up (fun _ => 0) 8 (nI 5)) 9 (nI 700)) 13 (nI 1)) ∧ I1 (A1 1) = (fun _ => 0) ∧ I1 (A1 3) = (fun _ => 0) ∧ I1 (A1 4) = (fun _ => 0))) := by
  refine ct_of (by decide) (Nat.le_of_ble_eq_true rfl) ?_
  intro z hz hr hrc hrs
  have hz : Am z cX7_init RX7 2 3 := hz
  have hr : Rt z yX7_init none 400 6000 _ := hr
  show V z 2 0 0 0 [(0, .ref a)] [] κ I R J
  have ob0 : Ob cT κ I R A a 9 7 (fun _ => 0) [] κ I R A := Ob.st ha hk (by decide) ho hI (by unfold cT; omega)
  refine v_aload_n hz dX7_init_0 rfl ?_
  refine v_objInit hz (tg_mem 88 (by decide +kernel) rfl) (tg_mem 89 (by decide +kernel) rfl) (tg_mem 90 (by decide +kernel) rfl) (by decide) (Nat.le_of_ble_eq_true rfl) dX7_init_1 ?_
  refine v_aload_n hz dX7_init_4 rfl ?_
  refine v_new hz cl4 tyX4_ok dfX4 (tg_mem 91 (by decide +kernel) rfl) (tg_mem 92 (by decide +kernel) rfl) (tg_mem 74 (by decide +kernel) rfl) (1) A ⟨by omega, by omega⟩ dX7_init_5 (fun q1 κ1 I1 R1 J1 A1 hw1 => ?_)
  obtain ⟨x11, x12, x13, x14, x15, x16, x17, x18⟩ := hw1
  have oc1 := ob0.ex x11 (fun t ht => by unfold cT; omega) (by omega) (by (try simp only [List.mem_cons, List.not_mem_nil, or_false, forall_eq_or_imp, forall_eq, false_implies, implies_true]); first | done | omega)
  refine v_dup hz dX7_init_8 rfl ?_
  refine v_callIn hz lX7_11 rfl rfl (cX4_init_ok _ _ _ _ _ _ A1 q1 x12 x13 x15 x16) rfl rfl (Nat.le_of_ble_eq_true rfl) (by decide) ⟨by omega, by omega⟩ dX7_init_9 (fun κ2 I2 R2 J2 hc2 => ?_)
  obtain ⟨A2, e2, eb2, el2, ez2⟩ := hc2
  have oc2 := oc1.ex e2 (fun t ht => by unfold cT; omega) (by omega) (by (try simp only [List.mem_cons, List.not_mem_nil, or_false, forall_eq_or_imp, forall_eq, false_implies, implies_true]); first | done | omega)
  have ka2 := oc2.2.2.1.2.1
  have kq2 := e2.1 q1 (by rw [x13]; decide)
  refine v_putR (f := 0) (ty := (.object "NearPhrases$Page")) hz hr rfl cl7 (by decide) rfl (by decide +kernel) rfl (tg_mem 303 (by decide +kernel) rfl) ka2 rfl rfl dX7_init_12 ?_
  have ob2 := oc2.put (f := 0) (k := 4) (n := 0) (t := 1) (by rw [eb2]; exact kq2.1.trans x13) (by decide) (by rw [eb2]; exact kq2.2.1.trans x14) (by rw [eb2]; exact kq2.2.2.trans x15) (ez2 1 (by omega) (by omega)).2.2 (by omega) (by unfold cT; omega) (by (try simp only [List.mem_cons, List.not_mem_nil, or_false, forall_eq_or_imp, forall_eq, false_implies, implies_true]); first | done | omega)
  rw [eb2] at ob2
  have pt2 : Ex (fun t => t = 9) κ2 I2 R2 A2 κ2 I2 (u2 R2 a 0 (some q1)) A2 := Ex.rf.putR (fun _ => oc2.2.2.1.2.2.2.1)
  have ex2 : Ex (fun t => t = 9 ∨ (1 ≤ t ∧ t < 3)) κ I R A κ2 I2 (u2 R2 a 0 (some q1)) A2 := (x11.wid (fun t ht => by omega)).tr ((e2.wid (fun t ht => by omega)).tr (pt2.wid (fun t ht => Or.inl ht)))
  refine v_aload_n hz dX7_init_15 rfl ?_
  refine v_bi (v := nI 13) hz dX7_init_16 (by decide) ?_
  refine v_anew hz (t0 := 3) (10) A2 (tg_mem 118 (by decide +kernel) rfl) (fun _ _ h => h.2.2.2.1) rfl (by decide) (by decide) ⟨by omega, by omega⟩ dX7_init_18 (fun q21 κ21 I21 R21 J21 A21 hw21 => ?_)
  obtain ⟨x211, x212, x213, x214, x215, x216, x217, x218⟩ := hw21
  have oc21 := ob2.ex x211 (fun t ht => by unfold cT; omega) (by omega) (by (try simp only [List.mem_cons, List.not_mem_nil, or_false, forall_eq_or_imp, forall_eq, false_implies, implies_true]); first | done | omega)
  have ka21 := oc21.2.2.1.2.1
  refine v_putR (f := 1) (ty := (.array (.object "NearPhrases$Segment"))) hz hr rfl cl7 (by decide) rfl (by decide +kernel) rfl (tg_mem 304 (by decide +kernel) rfl) ka21 rfl rfl dX7_init_21 ?_
  have ob21 := oc21.put (f := 1) (k := 12) (n := 13) (t := 10) (by rw [x212]; exact x213) (by decide) (by rw [x212]; exact x214) (by rw [x212]; exact x215) (by rw [x212]; exact x216) (by omega) (by unfold cT; omega) (by (try simp only [List.mem_cons, List.not_mem_nil, or_false, forall_eq_or_imp, forall_eq, false_implies, implies_true]); first | done | omega)
  rw [x212] at ob21
  have pt21 : Ex (fun t => t = 9) κ21 I21 R21 A21 κ21 I21 (u2 R21 a 1 (some q21)) A21 := Ex.rf.putR (fun _ => oc21.2.2.1.2.2.2.1)
  have ex21 : Ex (fun t => t = 9 ∨ t = 10) κ2 I2 (u2 R2 a 0 (some q1)) A2 κ21 I21 (u2 R21 a 1 (some q21)) A21 := (x211.wid (fun t ht => by omega)).tr (pt21.wid (fun t ht => Or.inl ht))
  refine v_ic (v := nI 0) hz dX7_init_24 (by decide) ?_
  refine v_istore_n hz dX7_init_25 (by decide) rfl ?_
  refine v_sub (lp_nei (κs := κ21) (Is := I21) (Rs := (u2 R21 a 1 (some q21))) (As := A21) hz (by omega) (by omega) (fun κv Iv Rv Jv Av ob hex hrow => ?_) 14 0 κ21 I21 _ J21 A21 (by omega) (by omega) ob21 Ex.rf (fun j hj => absurd hj (Nat.not_lt_zero j))) ⟨rfl, rfl, trivial⟩
  refine v_aload_n hz dX7_init_54 rfl ?_
  refine v_new hz cl5 tyX5_ok dfX5 (tg_mem 118 (by decide +kernel) rfl) (tg_mem 120 (by decide +kernel) rfl) (tg_mem 75 (by decide +kernel) rfl) (460) Av ⟨by omega, by omega⟩ dX7_init_55 (fun q3 κ3 I3 R3 J3 A3 hw3 => ?_)
  obtain ⟨x31, x32, x33, x34, x35, x36, x37, x38⟩ := hw3
  have oc3 := ob.ex x31 (fun t ht => by unfold cT; omega) (by omega) (by (try simp only [List.mem_cons, List.not_mem_nil, or_false, forall_eq_or_imp, forall_eq, false_implies, implies_true]); first | done | omega)
  refine v_dup hz dX7_init_58 rfl ?_
  refine v_callIn hz lX7_22 rfl rfl (cX5_init_ok _ _ _ _ _ _ A3 q3 460 x32 x33 x35 x36) rfl rfl (Nat.le_of_ble_eq_true rfl) (by decide) ⟨by omega, by omega⟩ dX7_init_59 (fun κ4 I4 R4 J4 hc4 => ?_)
  obtain ⟨A4, e4, eb4, el4, ez4⟩ := hc4
  have oc4 := oc3.ex e4 (fun t ht => by unfold cT; omega) (by omega) (by (try simp only [List.mem_cons, List.not_mem_nil, or_false, forall_eq_or_imp, forall_eq, false_implies, implies_true]); first | done | omega)
  have ka4 := oc4.2.2.1.2.1
  have kq4 := e4.1 q3 (by rw [x33]; decide)
  refine v_putR (f := 2) (ty := (.object "NearPhrases$Segment")) hz hr rfl cl7 (by decide) rfl (by decide +kernel) rfl (tg_mem 305 (by decide +kernel) rfl) ka4 rfl rfl dX7_init_62 ?_
  have ob4 := oc4.put (f := 2) (k := 5) (n := 0) (t := 460) (by rw [eb4]; exact kq4.1.trans x33) (by decide) (by rw [eb4]; exact kq4.2.1.trans x34) (by rw [eb4]; exact kq4.2.2.trans x35) (ez4 460 (by omega) (by omega)).2.2 (by omega) (by unfold cT; omega) (by (try simp only [List.mem_cons, List.not_mem_nil, or_false, forall_eq_or_imp, forall_eq, false_implies, implies_true]); first | done | omega)
  rw [eb4] at ob4
  have pt4 : Ex (fun t => t = 9) κ4 I4 R4 A4 κ4 I4 (u2 R4 a 2 (some q3)) A4 := Ex.rf.putR (fun _ => oc4.2.2.1.2.2.2.1)
  have ex4 : Ex (fun t => t = 9 ∨ (460 ≤ t ∧ t < 460 + 19)) κv Iv Rv Av κ4 I4 (u2 R4 a 2 (some q3)) A4 := (x31.wid (fun t ht => by omega)).tr ((e4.wid (fun t ht => by omega)).tr (pt4.wid (fun t ht => Or.inl ht)))
  refine v_aload_n hz dX7_init_65 rfl ?_
  refine v_new hz cl3 tyX3_ok dfX3 (tg_mem 175 (by decide +kernel) rfl) (tg_mem 176 (by decide +kernel) rfl) (tg_mem 77 (by decide +kernel) rfl) (3) A4 ⟨by omega, by omega⟩ dX7_init_66 (fun q5 κ5 I5 R5 J5 A5 hw5 => ?_)
  obtain ⟨x51, x52, x53, x54, x55, x56, x57, x58⟩ := hw5
  have oc5 := ob4.ex x51 (fun t ht => by unfold cT; omega) (by omega) (by (try simp only [List.mem_cons, List.not_mem_nil, or_false, forall_eq_or_imp, forall_eq, false_implies, implies_true]); first | done | omega)
  refine v_dup hz dX7_init_69 rfl ?_
  refine v_callIn hz lX7_29 rfl rfl (cX3_init_ok _ _ _ _ _ _ A5 q5 x52 x53 x55 x56) rfl rfl (Nat.le_of_ble_eq_true rfl) (by decide) ⟨by omega, by omega⟩ dX7_init_70 (fun κ6 I6 R6 J6 hc6 => ?_)
  obtain ⟨A6, e6, eb6, el6, ez6⟩ := hc6
  have oc6 := oc5.ex e6 (fun t ht => by unfold cT; omega) (by omega) (by (try simp only [List.mem_cons, List.not_mem_nil, or_false, forall_eq_or_imp, forall_eq, false_implies, implies_true]); first | done | omega)
  have ka6 := oc6.2.2.1.2.1
  have kq6 := e6.1 q5 (by rw [x53]; decide)
  refine v_putR (f := 3) (ty := (.object "NearPhrases$GramIndex")) hz hr rfl cl7 (by decide) rfl (by decide +kernel) rfl (tg_mem 306 (by decide +kernel) rfl) ka6 rfl rfl dX7_init_73 ?_
  have ob6 := oc6.put (f := 3) (k := 3) (n := 0) (t := 3) (by rw [eb6]; exact kq6.1.trans x53) (by decide) (by rw [eb6]; exact kq6.2.1.trans x54) (by rw [eb6]; exact kq6.2.2.trans x55) (ez6 3 (by omega) (by omega)).2.2 (by omega) (by unfold cT; omega) (by (try simp only [List.mem_cons, List.not_mem_nil, or_false, forall_eq_or_imp, forall_eq, false_implies, implies_true]); first | done | omega)
  rw [eb6] at ob6
  have pt6 : Ex (fun t => t = 9) κ6 I6 R6 A6 κ6 I6 (u2 R6 a 3 (some q5)) A6 := Ex.rf.putR (fun _ => oc6.2.2.1.2.2.2.1)
  have ex6 : Ex (fun t => t = 9 ∨ (3 ≤ t ∧ t < 5)) κ4 I4 (u2 R4 a 2 (some q3)) A4 κ6 I6 (u2 R6 a 3 (some q5)) A6 := (x51.wid (fun t ht => by omega)).tr ((e6.wid (fun t ht => by omega)).tr (pt6.wid (fun t ht => Or.inl ht)))
  refine v_aload_n hz dX7_init_76 rfl ?_
  refine v_new hz cl0 tyX0_ok dfX0 (tg_mem 189 (by decide +kernel) rfl) (tg_mem 190 (by decide +kernel) rfl) (tg_mem 78 (by decide +kernel) rfl) (5) A6 ⟨by omega, by omega⟩ dX7_init_77 (fun q7 κ7 I7 R7 J7 A7 hw7 => ?_)
  obtain ⟨x71, x72, x73, x74, x75, x76, x77, x78⟩ := hw7
  have oc7 := ob6.ex x71 (fun t ht => by unfold cT; omega) (by omega) (by (try simp only [List.mem_cons, List.not_mem_nil, or_false, forall_eq_or_imp, forall_eq, false_implies, implies_true]); first | done | omega)
  refine v_dup hz dX7_init_80 rfl ?_
  refine v_callIn hz lX7_36 rfl rfl (cX0_init_ok _ _ _ _ _ _ A7 q7 x72 x73 x75 x76) rfl rfl (Nat.le_of_ble_eq_true rfl) (by decide) ⟨by omega, by omega⟩ dX7_init_81 (fun κ8 I8 R8 J8 hc8 => ?_)
  obtain ⟨A8, e8, eb8, el8, eo8, ez8⟩ := hc8
  have oc8 := oc7.ex e8 (fun t ht => by unfold cT; omega) (by omega) (by (try simp only [List.mem_cons, List.not_mem_nil, or_false, forall_eq_or_imp, forall_eq, false_implies, implies_true]); first | done | omega)
  have ka8 := oc8.2.2.1.2.1
  have kq8 := e8.1 q7 (by rw [x73]; decide)
  refine v_putR (f := 4) (ty := (.object "NearPhrases$Aligner")) hz hr rfl cl7 (by decide) rfl (by decide +kernel) rfl (tg_mem 307 (by decide +kernel) rfl) ka8 rfl rfl dX7_init_84 ?_
  have ob8 := oc8.put (f := 4) (k := 0) (n := 0) (t := 5) (by rw [eb8]; exact kq8.1.trans x73) (by decide) (by rw [eb8]; exact kq8.2.1.trans x74) (by rw [eb8]; exact kq8.2.2.trans x75) (by rw [eb8]; exact ez8) (by omega) (by unfold cT; omega) (by (try simp only [List.mem_cons, List.not_mem_nil, or_false, forall_eq_or_imp, forall_eq, false_implies, implies_true]); first | done | omega)
  rw [eb8] at ob8
  have pt8 : Ex (fun t => t = 9) κ8 I8 R8 A8 κ8 I8 (u2 R8 a 4 (some q7)) A8 := Ex.rf.putR (fun _ => oc8.2.2.1.2.2.2.1)
  have ex8 : Ex (fun t => t = 9 ∨ ((5 ≤ t ∧ t < 9) ∨ (20 ≤ t ∧ t < 28) ∨ (40 ≤ t ∧ t < 49))) κ6 I6 (u2 R6 a 3 (some q5)) A6 κ8 I8 (u2 R8 a 4 (some q7)) A8 := (x71.wid (fun t ht => by omega)).tr ((e8.wid (fun t ht => by omega)).tr (pt8.wid (fun t ht => Or.inl ht)))
  refine v_aload_n hz dX7_init_87 rfl ?_
  refine v_new hz cl1 tyX1_ok dfX1 (tg_mem 207 (by decide +kernel) rfl) (tg_mem 208 (by decide +kernel) rfl) (tg_mem 79 (by decide +kernel) rfl) (60) A8 ⟨by omega, by omega⟩ dX7_init_88 (fun q9 κ9 I9 R9 J9 A9 hw9 => ?_)
  obtain ⟨x91, x92, x93, x94, x95, x96, x97, x98⟩ := hw9
  have oc9 := ob8.ex x91 (fun t ht => by unfold cT; omega) (by omega) (by (try simp only [List.mem_cons, List.not_mem_nil, or_false, forall_eq_or_imp, forall_eq, false_implies, implies_true]); first | done | omega)
  refine v_dup hz dX7_init_91 rfl ?_
  refine v_callIn hz lX7_43 rfl rfl (cX1_init_ok _ _ _ _ _ _ A9 q9 60 x92 x93 x95 x96) rfl rfl (Nat.le_of_ble_eq_true rfl) (by decide) ⟨by omega, by omega⟩ dX7_init_92 (fun κ10 I10 R10 J10 hc10 => ?_)
  obtain ⟨A10, e10, eb10, el10, ez10⟩ := hc10
  have oc10 := oc9.ex e10 (fun t ht => by unfold cT; omega) (by omega) (by (try simp only [List.mem_cons, List.not_mem_nil, or_false, forall_eq_or_imp, forall_eq, false_implies, implies_true]); first | done | omega)
  have ka10 := oc10.2.2.1.2.1
  have kq10 := e10.1 q9 (by rw [x93]; decide)
  refine v_putR (f := 5) (ty := (.object "NearPhrases$Comparison")) hz hr rfl cl7 (by decide) rfl (by decide +kernel) rfl (tg_mem 308 (by decide +kernel) rfl) ka10 rfl rfl dX7_init_95 ?_
  have ob10 := oc10.put (f := 5) (k := 1) (n := 0) (t := 60) (by rw [eb10]; exact kq10.1.trans x93) (by decide) (by rw [eb10]; exact kq10.2.1.trans x94) (by rw [eb10]; exact kq10.2.2.trans x95) (ez10 60 (by omega) (by omega)).2.2 (by omega) (by unfold cT; omega) (by (try simp only [List.mem_cons, List.not_mem_nil, or_false, forall_eq_or_imp, forall_eq, false_implies, implies_true]); first | done | omega)
  rw [eb10] at ob10
  have pt10 : Ex (fun t => t = 9) κ10 I10 R10 A10 κ10 I10 (u2 R10 a 5 (some q9)) A10 := Ex.rf.putR (fun _ => oc10.2.2.1.2.2.2.1)
  have ex10 : Ex (fun t => t = 9 ∨ (60 ≤ t ∧ t < 60 + 5)) κ8 I8 (u2 R8 a 4 (some q7)) A8 κ10 I10 (u2 R10 a 5 (some q9)) A10 := (x91.wid (fun t ht => by omega)).tr ((e10.wid (fun t ht => by omega)).tr (pt10.wid (fun t ht => Or.inl ht)))
  refine v_aload_n hz dX7_init_98 rfl ?_
  refine v_new hz cl2 tyX2_ok dfX2 (tg_mem 267 (by decide +kernel) rfl) (tg_mem 268 (by decide +kernel) rfl) (tg_mem 80 (by decide +kernel) rfl) (11) A10 ⟨by omega, by omega⟩ dX7_init_99 (fun q11 κ11 I11 R11 J11 A11 hw11 => ?_)
  obtain ⟨x111, x112, x113, x114, x115, x116, x117, x118⟩ := hw11
  have oc11 := ob10.ex x111 (fun t ht => by unfold cT; omega) (by omega) (by (try simp only [List.mem_cons, List.not_mem_nil, or_false, forall_eq_or_imp, forall_eq, false_implies, implies_true]); first | done | omega)
  refine v_dup hz dX7_init_102 rfl ?_
  refine v_callIn hz lX7_50 rfl rfl (cX2_init_ok _ _ _ _ _ _ A11 q11 x112 x113 x115 x116) rfl rfl (Nat.le_of_ble_eq_true rfl) (by decide) ⟨by omega, by omega⟩ dX7_init_103 (fun κ12 I12 R12 J12 hc12 => ?_)
  obtain ⟨A12, e12, eb12, el12, eo12, ez12, ey12⟩ := hc12
  have oc12 := oc11.ex e12 (fun t ht => by unfold cT; omega) (by omega) (by (try simp only [List.mem_cons, List.not_mem_nil, or_false, forall_eq_or_imp, forall_eq, false_implies, implies_true]); first | done | omega)
  have ka12 := oc12.2.2.1.2.1
  have kq12 := e12.1 q11 (by rw [x113]; decide)
  refine v_putR (f := 6) (ty := (.object "NearPhrases$Findings")) hz hr rfl cl7 (by decide) rfl (by decide +kernel) rfl (tg_mem 309 (by decide +kernel) rfl) ka12 rfl rfl dX7_init_106 ?_
  have ob12 := oc12.put (f := 6) (k := 2) (n := 0) (t := 11) (by rw [eb12]; exact kq12.1.trans x113) (by decide) (by rw [eb12]; exact kq12.2.1.trans x114) (by rw [eb12]; exact kq12.2.2.trans x115) (ez12 11 (by omega) (by omega)).2.2 (by omega) (by unfold cT; omega) (by (try simp only [List.mem_cons, List.not_mem_nil, or_false, forall_eq_or_imp, forall_eq, false_implies, implies_true]); first | done | omega)
  rw [eb12] at ob12
  have pt12 : Ex (fun t => t = 9) κ12 I12 R12 A12 κ12 I12 (u2 R12 a 6 (some q11)) A12 := Ex.rf.putR (fun _ => oc12.2.2.1.2.2.2.1)
  have ex12 : Ex (fun t => t = 9 ∨ ((11 ≤ t ∧ t < 15) ∨ (65 ≤ t ∧ t < 125))) κ10 I10 (u2 R10 a 5 (some q9)) A10 κ12 I12 (u2 R12 a 6 (some q11)) A12 := (x111.wid (fun t ht => by omega)).tr ((e12.wid (fun t ht => by omega)).tr (pt12.wid (fun t ht => Or.inl ht)))
  refine v_aload_n hz dX7_init_109 rfl ?_
  refine v_ic (v := nI 5) hz dX7_init_110 (by decide) ?_
  have kaf := ob12.2.2.1.2.1
  refine v_putI hz fX7_55 (by assumption) dX7_init_111 ?_
  refine v_aload_n hz dX7_init_114 rfl ?_
  refine v_si (v := nI 700) hz dX7_init_115 (by decide) ?_
  refine v_putI hz fX7_59 (by assumption) dX7_init_118 ?_
  refine v_aload_n hz dX7_init_121 rfl ?_
  refine v_ic (v := nI 1) hz dX7_init_122 (by decide) ?_
  refine v_putZ hz fX7_62 (by assumption) (by first | exact Or.inl rfl | exact Or.inr rfl | exact bz_01) dX7_init_123 ?_
  have obI := ((ob12.int (f := 8) (v := nI 5)).int (f := 9) (v := nI 700)).int (f := 13) (v := nI 1)
  have o9 := ob12.2.2.1.2.2.2.1
  have exI : Ex (fun t => t = 9) κ12 I12 (u2 R12 a 6 (some q11)) A12 κ12 (u2 (u2 (u2 I12 a 8 (nI 5)) a 9 (nI 700)) a 13 (nI 1)) (u2 R12 a 6 (some q11)) A12 := ((Ex.rf.putI (fun _ => o9)).putI (fun _ => o9)).putI (fun _ => o9)
  have y2 := ((pt2.wid (T2 := (fun t => ¬ (1 ≤ t ∧ t < 3))) (fun t ht => by omega)).tr ((ex21.wid (T2 := (fun t => ¬ (1 ≤ t ∧ t < 3))) (fun t ht => by omega)).tr ((hex.wid (T2 := (fun t => ¬ (1 ≤ t ∧ t < 3))) (fun t ht => by omega)).tr ((ex4.wid (T2 := (fun t => ¬ (1 ≤ t ∧ t < 3))) (fun t ht => by omega)).tr ((ex6.wid (T2 := (fun t => ¬ (1 ≤ t ∧ t < 3))) (fun t ht => by omega)).tr ((ex8.wid (T2 := (fun t => ¬ (1 ≤ t ∧ t < 3))) (fun t ht => by omega)).tr ((ex10.wid (T2 := (fun t => ¬ (1 ≤ t ∧ t < 3))) (fun t ht => by omega)).tr ((ex12.wid (T2 := (fun t => ¬ (1 ≤ t ∧ t < 3))) (fun t ht => by omega)).tr (exI.wid (T2 := (fun t => ¬ (1 ≤ t ∧ t < 3))) (fun t ht => by omega))))))))))
  have y4 := ((pt4.wid (T2 := (fun t => ¬ (460 ≤ t ∧ t < 460 + 19))) (fun t ht => by omega)).tr ((ex6.wid (T2 := (fun t => ¬ (460 ≤ t ∧ t < 460 + 19))) (fun t ht => by omega)).tr ((ex8.wid (T2 := (fun t => ¬ (460 ≤ t ∧ t < 460 + 19))) (fun t ht => by omega)).tr ((ex10.wid (T2 := (fun t => ¬ (460 ≤ t ∧ t < 460 + 19))) (fun t ht => by omega)).tr ((ex12.wid (T2 := (fun t => ¬ (460 ≤ t ∧ t < 460 + 19))) (fun t ht => by omega)).tr (exI.wid (T2 := (fun t => ¬ (460 ≤ t ∧ t < 460 + 19))) (fun t ht => by omega)))))))
  have y6 := ((pt6.wid (T2 := (fun t => ¬ (3 ≤ t ∧ t < 5))) (fun t ht => by omega)).tr ((ex8.wid (T2 := (fun t => ¬ (3 ≤ t ∧ t < 5))) (fun t ht => by omega)).tr ((ex10.wid (T2 := (fun t => ¬ (3 ≤ t ∧ t < 5))) (fun t ht => by omega)).tr ((ex12.wid (T2 := (fun t => ¬ (3 ≤ t ∧ t < 5))) (fun t ht => by omega)).tr (exI.wid (T2 := (fun t => ¬ (3 ≤ t ∧ t < 5))) (fun t ht => by omega))))))
  have y8 := ((pt8.wid (T2 := (fun t => ¬ ((5 ≤ t ∧ t < 9) ∨ (20 ≤ t ∧ t < 28) ∨ (40 ≤ t ∧ t < 49)))) (fun t ht => by omega)).tr ((ex10.wid (T2 := (fun t => ¬ ((5 ≤ t ∧ t < 9) ∨ (20 ≤ t ∧ t < 28) ∨ (40 ≤ t ∧ t < 49)))) (fun t ht => by omega)).tr ((ex12.wid (T2 := (fun t => ¬ ((5 ≤ t ∧ t < 9) ∨ (20 ≤ t ∧ t < 28) ∨ (40 ≤ t ∧ t < 49)))) (fun t ht => by omega)).tr (exI.wid (T2 := (fun t => ¬ ((5 ≤ t ∧ t < 9) ∨ (20 ≤ t ∧ t < 28) ∨ (40 ≤ t ∧ t < 49)))) (fun t ht => by omega)))))
  have y10 := ((pt10.wid (T2 := (fun t => ¬ (60 ≤ t ∧ t < 60 + 5))) (fun t ht => by omega)).tr ((ex12.wid (T2 := (fun t => ¬ (60 ≤ t ∧ t < 60 + 5))) (fun t ht => by omega)).tr (exI.wid (T2 := (fun t => ¬ (60 ≤ t ∧ t < 60 + 5))) (fun t ht => by omega))))
  have y12 := ((pt12.wid (T2 := (fun t => ¬ ((11 ≤ t ∧ t < 15) ∨ (65 ≤ t ∧ t < 125)))) (fun t ht => by omega)).tr (exI.wid (T2 := (fun t => ¬ ((11 ≤ t ∧ t < 15) ∨ (65 ≤ t ∧ t < 125)))) (fun t ht => by omega)))
  have yl := ((ex4.wid (T2 := (fun t => ¬ (t = 10 ∨ (200 ≤ t ∧ t < 460)))) (fun t ht => by omega)).tr ((ex6.wid (T2 := (fun t => ¬ (t = 10 ∨ (200 ≤ t ∧ t < 460)))) (fun t ht => by omega)).tr ((ex8.wid (T2 := (fun t => ¬ (t = 10 ∨ (200 ≤ t ∧ t < 460)))) (fun t ht => by omega)).tr ((ex10.wid (T2 := (fun t => ¬ (t = 10 ∨ (200 ≤ t ∧ t < 460)))) (fun t ht => by omega)).tr ((ex12.wid (T2 := (fun t => ¬ (t = 10 ∨ (200 ≤ t ∧ t < 460)))) (fun t ht => by omega)).tr (exI.wid (T2 := (fun t => ¬ (t = 10 ∨ (200 ≤ t ∧ t < 460)))) (fun t ht => by omega)))))))
  have l2 := el2.ex y2 (by omega) (by omega)
  have l4 := el4.ex y4 (fun t h1 h2 => by omega)
  have l6 := el6.ex y6 (by omega) (by omega)
  have l8 := el8.ex y8 eo8 (fun t ht q => by rcases ht with h | h | h | (h | h | h) <;> omega)
  have l10 := el10.ex y10 (fun t h1 h2 => by omega)
  have l12 := el12.ex y12 eo12 (fun t ht => by omega)
  obtain ⟨e0, e1, ⟨e2, e3, e4, e5, e6⟩, e7⟩ := obI
  obtain ⟨⟨f1, f2, f3, f4, f5⟩, -, -, -⟩ := e7 (1, 12, 13, 10) (by decide)
  have g0 := (e7 (0, 4, 0, 1) (by decide)).1.1
  have g2 := (e7 (2, 5, 0, 460) (by decide)).1.1
  have g3 := (e7 (3, 3, 0, 3) (by decide)).1.1
  have g4 := (e7 (4, 0, 0, 5) (by decide)).1.1
  have g5 := (e7 (5, 1, 0, 60) (by decide)).1.1
  have g6 := (e7 (6, 2, 0, 11) (by decide)).1.1
  obtain ⟨⟨w1, w2, w3, w4, w5⟩, -, -, -⟩ := ob.2.2.2 (1, 12, 13, 10) (by decide)
  have w2 : κv.1 (Av 10) = 12 := w2
  have w4 : κv.2.2 (Av 10) = 10 := w4
  obtain ⟨s1, s2, s3, s4, s5, s6⟩ := yl.sm (t := 10) (by rw [w2]; decide) w4 (by omega)
  have o5 := y8.sm (t := 5) (by rw [el8.1]; decide) eo8.1 (by omega)
  have o6 := y8.sm (t := 6) (by rw [el8.2.1.2.1]; decide) eo8.2.1 (by omega)
  have o7 := y8.sm (t := 7) (by rw [el8.2.2.1.2.1]; decide) eo8.2.2 (by omega)
  have o12 := y12.sm (t := 12) (by rw [el12.2.2.1.2.1]; decide) eo12 (by omega)
  have z1 := (ez2.ex y2 (fun t h1 h2 => by omega)) 1 (by omega) (by omega)
  have z3 := (ez6.ex y6 (fun t h1 h2 => by omega)) 3 (by omega) (by omega)
  have z4 := (ez6.ex y6 (fun t h1 h2 => by omega)) 4 (by omega) (by omega)
  refine v_widen (k1 := 400) (n1 := 6000) (by decide) (by decide) (v_vret0 hz hr dX7_init_126 ⟨rfl, A12, e1, e2, ⟨by rw [e2]; exact e3, by rw [e2]; exact e5, ⟨by rw [e2]; exact g0, by rw [e2]; exact f1, by rw [e2]; exact g2, by rw [e2]; exact g3, by rw [e2]; exact g4, by rw [e2]; exact g5, by rw [e2]; exact g6⟩, ⟨f2, f3, f4⟩, fun i hi => ?_, fun i j hi hj e => by show 200 + 20 * i + 20 ≤ 200 + 20 * j ∨ 200 + 20 * j + 20 ≤ 200 + 20 * i; omega, l2, l6, l8, l10, l12, l4⟩, ⟨by rw [o5.1, o5.2.2.2.1]; exact eo8.1, by rw [o6.1, o6.2.2.2.1]; exact eo8.2.1, by rw [o7.1, o7.2.2.2.1]; exact eo8.2.2, by rw [o12.1, o12.2.2.2.1]; exact eo12⟩, by rw [e2]; exact e6, z1.2.2, z3.2.2, z4.2.2⟩)
  · obtain ⟨r1, r2, r3⟩ := hrow i hi
    exact ⟨by rw [s1, s6, yl.2.1 (200 + 20 * i) (by omega)]; exact r1, by show 200 ≤ 200 + 20 * i; omega, by show 200 + 20 * i + 20 ≤ 460; omega, r2.ex yl (fun t h1 h2 => by omega)⟩
