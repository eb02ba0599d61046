/-! ===== the aligner's constructor ===== -/
theorem v_multi {z : Zz} {cc : ByteArray} {own : String} {nL d k ns pc : Nat} {lv : List (Nat × Value)} {st : List Value} {κ : Kz} {I : Iz} {R : Rz} {J : Jz} (hz : Am z cc own nL d) {idx n m : Nat} (t t2 : Nat) (A : Nat → Nat) (ht : t < t2 ∨ t2 + n ≤ t) (h1 : Cond.classLink own idx "[[I" ∈ tg) (hn : n ≤ 1000) (hm : m ≤ 1000) (hroom : k + (1 + n) ≤ (zR z).cells ∧ ns + (n + n * m) ≤ (zR z).slots) (dd : decode cc pc = .ok (.multianewarray idx 2, 4))
    (h : ∀ q κ1 I1 R1 J1 A1, NewM κ I R A κ1 I1 R1 A1 q t t2 n m → V z nL (k + 1 + n) (ns + n + n * m) (pc + 4) lv (.ref q :: st) κ1 I1 R1 J1) : V z nL k ns pc lv (.int (nI m) :: .int (nI n) :: st) κ I R J := by
  obtain ⟨⟨hexec, hb, -, hown, hts⟩, ⟨hKK, hNN, hAO⟩, hlo, -, -⟩ := hz
  intro ls H locs hl hM hS Tt hT X
  have hcl : (Cond.classLink own idx ("[" ++ (FieldType.array FieldType.int).toString)).before (za z) (zs z) = true := hts _ h1
  have hov : (Cond.arrayOver (.array FieldType.int)).before (za z) (zs z) = true := hAO.2.2.2
  have har : (Cond.arrayClass FieldType.int).before (za z) (zs z) = true := hts _ (tg_mem 117 (by decide +kernel) rfl)
  subst hT
  have hpl : (ze z).platform.magicAccessors = ({} : Platform).magicAccessors := by rw [X.admits.platform]
  obtain ⟨cI, cA, kA, hcI, -, hkA, hkindA, hnA⟩ := arrayOverA_spec hov
  obtain ⟨cI2, kI, cc0, hcI2, hkI, hkindI⟩ := Cond.arrayClass_spec har
  cases Option.some.inj (hcI2.symm.trans hcI)
  obtain ⟨c0, hf0, hlk⟩ := Cond.classLink_spec hown hcl (ze z).platform hpl
  cases hnA.symm.trans hf0
  obtain ⟨hg1, hw1, hr1⟩ := State.classEntry (e := ze z) X.warmed hlk
  generalize Tt.vm.noted (zm z).cls idx (.cls cA) = vm1 at hg1 hw1 hr1
  obtain ⟨kA1, hkA1, heA⟩ := hw1.alike.2.2 _ _ hkA
  obtain ⟨kI1, hkI1, heI⟩ := hw1.alike.2.2 _ _ hkI
  have X1 := X.noted hw1
  obtain ⟨hq1, hq2⟩ := X.roomAbove hroom.1 hroom.2
  have XF := gS_stand X1 cA cI n m n
  obtain ⟨f1, f2, f3, f4, f5, f6⟩ := gS_f (Tt.setVm vm1) cA cI n m n
  have eA : cA = (zg z).2.1 14 := Option.some.inj (hnA.symm.trans (show (zs z).vm.findClass ("[" ++ (FieldType.array FieldType.int).toString) = some ((zg z).2.1 14) from (hKK.2 5 _ rfl).2))
  have eI : cI = (zg z).2.1 9 := Option.some.inj (hcI2.symm.trans (show (zs z).vm.findClass ("[" ++ FieldType.int.toString) = some ((zg z).2.1 9) from (hKK.2 0 _ rfl).2))
  obtain ⟨κ1, I1, R1, A1, hM1, hN1⟩ := MM.multi (A := A) (H1 := (gS (Tt.setVm vm1) cA cI n m n).heap) (n := n) (m := m) hM ht f1 f5 (by
    rw [← eA, show (Tt.heap.size) = (Tt.setVm vm1).heap.size from rfl, f2]
    exact congrArg (fun f => some (arrV cA n f)) (funext fun j => by
      unfold gO
      by_cases hj : j < n
      · rw [if_pos hj, if_pos hj]; rfl
      · rw [if_neg hj, if_neg hj]; rfl)) (fun j hj => by
    rw [← eI]
    exact f6 j hj) (Nat.le_trans hlo hS.1)
  have hS1 : va_S (fun q => (zg z).2.2 ≤ q) (zs z).heap (gS (Tt.setVm vm1) cA cI n m n).heap locs := ⟨Nat.le_trans hS.1 (by rw [f1]; show Tt.heap.size ≤ Tt.heap.size + 1 + n; omega), fun x h1 h2 => (f5 x (show x < Tt.heap.size from Nat.lt_of_lt_of_le h1 hS.1)).trans (hS.2.1 x h1 h2), hS.2.2⟩
  obtain ⟨t9, a1, b1⟩ := h _ κ1 I1 R1 J A1 hN1 ls _ locs hl hM1 hS1 _ rfl XF
  refine ⟨t9, ?_, b1⟩
  jvm_step X.here [hexec, hb, dd]
  simp only [multianewarray.sem, wp_bind', W.resolveClassAt_links (State.method?_setTop (F0 (zm z) pc ls (.int (nI m) :: .int (nI n) :: st)) X.here.top) hg1]
  rw [W.popN, if_neg (by decide)]
  refine ⟨F0 (zm z) pc ls (.int (nI m) :: .int (nI n) :: st), State.topJava?_setTop' (s := Tt.setVm vm1) _ X.here.top, [.int (nI n), .int (nI m)], st, rfl, rfl, ?_⟩
  simp only [List.mapM_cons, List.mapM_nil, wp_bind', wp_pure']
  refine wp_grid (kA := kA1) (kI := kI1) (cI := cI) (cc := cc0) hkA1 (by rw [heA]; exact hkindA) hkI1 (by rw [heI]; exact hkindI) hn hm (by rw [Launch.admits_arrayLengthLimit X.admits]; omega) (by rw [Launch.admits_maxHeapBytes X.admits]; omega) (by show Tt.heap.size + 1 + n ≤ _; omega) (by show Tt.slotsUsed + n + n * m ≤ _; omega) (fun d' acts' => ?_)
  have eS : ((Tt.setTop (F0 (zm z) pc ls (.int (nI m) :: .int (nI n) :: st))).setVm vm1).setTop { F0 (zm z) pc ls (.int (nI m) :: .int (nI n) :: st) with stack := st } = (Tt.setVm vm1).setTop { F0 (zm z) pc ls (.int (nI m) :: .int (nI n) :: st) with stack := st } := by
    show ((Tt.setVm vm1).setTop _).setTop _ = _
    rw [State.setTop_setTop]
  rw [eS, gS_top]
  simp only [wp_bind', W.mark, W.pushRef, State.topJava?_setTop' _ XF.here.top, Option.some.injEq, exists_eq_left', State.setTop_setTop, State.heap_setTop]
  intro acts9
  simp [jvm, XF.here.top]
  exact a1
set_option maxHeartbeats 4000000 in
set_option maxRecDepth 100000 in
theorem cX0_init_ok (l : Launch) (g : Gz) (κ : Kz) (I : Iz) (R : Rz) (J : Jz) (A : Nat → Nat) (a : Nat) (ha : A 5 = a) (hk : κ.1 a = 0) (ho : κ.2.2 a = 5) (hI : I a = fun _ => 0) : Ct l mX0_init 20 175 g [.ref a] κ I R J (Sn (fun κ1 I1 R1 => ∃ A1, Ex (fun t => (5 ≤ t ∧ t < 9) ∨ (20 ≤ t ∧ t < 28) ∨ (40 ≤ t ∧ t < 49)) κ I R A κ1 I1 R1 A1 ∧ A1 5 = a ∧ LAg κ1 R1 A1 ∧ (κ1.2.2 (A1 5) = 5 ∧ κ1.2.2 (A1 6) = 6 ∧ κ1.2.2 (A1 7) = 7) ∧ I1 a = (fun _ => 0))) := by
  refine ct_of (by decide) (Nat.le_of_ble_eq_true rfl) ?_
  intro z hz hr hrc hrs
  have hz : Am z cX0_init RX0 1 1 := hz
  have hr : Rt z yX0_init none 20 175 _ := hr
  show V z 1 0 0 0 [(0, .ref a)] [] κ I R J
  have ob0 : Ob (fun t => (5 ≤ t ∧ t < 9) ∨ (20 ≤ t ∧ t < 28) ∨ (40 ≤ t ∧ t < 49)) κ I R A a 5 0 (fun _ => 0) [] κ I R A := Ob.st ha hk (by decide) ho hI (by omega)
  refine v_aload_n hz dX0_init_0 rfl ?_
  refine v_objInit hz (tg_mem 194 (by decide +kernel) rfl) (tg_mem 89 (by decide +kernel) rfl) (tg_mem 90 (by decide +kernel) rfl) (by decide) (Nat.le_of_ble_eq_true rfl) dX0_init_1 ?_
  refine v_aload_n hz dX0_init_4 rfl ?_
  refine v_bi (v := nI 8) hz dX0_init_5 (by decide) ?_
  refine v_bi (v := nI 8) hz dX0_init_7 (by decide) ?_
  refine v_multi hz 6 20 A (by omega) (tg_mem 195 (by decide +kernel) rfl) (by decide) (by decide) ⟨by omega, by omega⟩ dX0_init_9 (fun q1 κ1 I1 R1 J1 A1 hw1 => ?_)
  obtain ⟨x11, x12, x13, x14, x15, x16, x17, x18⟩ := hw1
  have oc1 := ob0.ex x11 (fun t ht => by omega) (by omega) (by (try simp only [List.mem_cons, List.not_mem_nil, or_false, forall_eq_or_imp, forall_eq, false_implies, implies_true]); first | done | omega)
  have ka1 := oc1.2.2.1.2.1
  refine v_putR (f := 0) (ty := (.array (.array .int))) hz hr rfl cl0 (by decide) rfl (by decide +kernel) rfl (tg_mem 197 (by decide +kernel) rfl) ka1 rfl rfl dX0_init_13 ?_
  have ob1 := oc1.put (f := 0) (k := 14) (n := 8) (t := 6) (by rw [x12]; exact x13) (by decide) (by rw [x12]; exact x14) (by rw [x12]; exact x15) (by rw [x12]; exact x16) (by omega) (by omega) (by (try simp only [List.mem_cons, List.not_mem_nil, or_false, forall_eq_or_imp, forall_eq, false_implies, implies_true]); first | done | omega)
  rw [x12] at ob1
  refine v_aload_n hz dX0_init_16 rfl ?_
  refine v_bi (v := nI 9) hz dX0_init_17 (by decide) ?_
  refine v_bi (v := nI 9) hz dX0_init_19 (by decide) ?_
  refine v_multi hz 7 40 A1 (by omega) (tg_mem 195 (by decide +kernel) rfl) (by decide) (by decide) ⟨by omega, by omega⟩ dX0_init_21 (fun q2 κ2 I2 R2 J2 A2 hw2 => ?_)
  obtain ⟨x21, x22, x23, x24, x25, x26, x27, x28⟩ := hw2
  have oc2 := ob1.ex x21 (fun t ht => by omega) (by omega) (by (try simp only [List.mem_cons, List.not_mem_nil, or_false, forall_eq_or_imp, forall_eq, false_implies, implies_true]); first | done | omega)
  have ka2 := oc2.2.2.1.2.1
  refine v_putR (f := 1) (ty := (.array (.array .int))) hz hr rfl cl0 (by decide) rfl (by decide +kernel) rfl (tg_mem 198 (by decide +kernel) rfl) ka2 rfl rfl dX0_init_25 ?_
  have ob2 := oc2.put (f := 1) (k := 14) (n := 9) (t := 7) (by rw [x22]; exact x23) (by decide) (by rw [x22]; exact x24) (by rw [x22]; exact x25) (by rw [x22]; exact x26) (by omega) (by omega) (by (try simp only [List.mem_cons, List.not_mem_nil, or_false, forall_eq_or_imp, forall_eq, false_implies, implies_true]); first | done | omega)
  rw [x22] at ob2
  refine v_aload_n hz dX0_init_28 rfl ?_
  refine v_bi (v := nI 13) hz dX0_init_29 (by decide) ?_
  refine v_newI hz (8) A2 (by decide) ⟨by omega, by omega⟩ dX0_init_31 (fun q3 κ3 I3 R3 J3 A3 hw3 => ?_)
  obtain ⟨x31, x32, x33, x34, x35, x36, x37, x38⟩ := hw3
  have oc3 := ob2.ex x31 (fun t ht => by omega) (by omega) (by (try simp only [List.mem_cons, List.not_mem_nil, or_false, forall_eq_or_imp, forall_eq, false_implies, implies_true]); first | done | omega)
  have ka3 := oc3.2.2.1.2.1
  refine v_putR (f := 2) (ty := (.array .int)) hz hr rfl cl0 (by decide) rfl (by decide +kernel) rfl (tg_mem 199 (by decide +kernel) rfl) ka3 rfl rfl dX0_init_33 ?_
  have ob3 := oc3.put (f := 2) (k := 9) (n := 13) (t := 8) (by rw [x32]; exact x33) (by decide) (by rw [x32]; exact x34) (by rw [x32]; exact x35) (by rw [x32]; exact x36) (by omega) (by omega) (by (try simp only [List.mem_cons, List.not_mem_nil, or_false, forall_eq_or_imp, forall_eq, false_implies, implies_true]); first | done | omega)
  rw [x32] at ob3
  have p1 : Ex (fun t => t = 5) κ1 I1 R1 A1 κ1 I1 (u2 R1 a 0 (some q1)) A1 := Ex.rf.putR (fun _ => oc1.2.2.1.2.2.2.1)
  have p2 : Ex (fun t => t = 5) κ2 I2 R2 A2 κ2 I2 (u2 R2 a 1 (some q2)) A2 := Ex.rf.putR (fun _ => oc2.2.2.1.2.2.2.1)
  have p3 : Ex (fun t => t = 5) κ3 I3 R3 A3 κ3 I3 (u2 R3 a 2 (some q3)) A3 := Ex.rf.putR (fun _ => oc3.2.2.1.2.2.2.1)
  have w2 : Ex (fun t => t = 5 ∨ t = 8) κ2 I2 R2 A2 κ3 I3 (u2 R3 a 2 (some q3)) A3 := (p2.wid (fun t ht => Or.inl ht)).tr ((x31.wid (fun t ht => Or.inr ht)).tr (p3.wid (fun t ht => Or.inl ht)))
  have w1 : Ex (fun t => t = 5 ∨ t = 8 ∨ t = 7 ∨ (40 ≤ t ∧ t < 40 + 9)) κ1 I1 R1 A1 κ3 I3 (u2 R3 a 2 (some q3)) A3 := (p1.wid (fun t ht => Or.inl ht)).tr ((x21.wid (fun t ht => by omega)).tr (w2.wid (fun t ht => by omega)))
  obtain ⟨s1, s2, s3, s4, s5, s6⟩ := w1.sm (t := 6) (by rw [x12, x13]; decide) (by rw [x12]; exact x15) (by omega)
  obtain ⟨u1, u2, u3, u4, u5, u6⟩ := w2.sm (t := 7) (by rw [x22, x23]; decide) (by rw [x22]; exact x25) (by omega)
  obtain ⟨e0, e1, ⟨e2, e3, e4, e5, e6⟩, e7⟩ := ob3
  obtain ⟨⟨f1, f2, f3, f4, f5⟩, -, -, -⟩ := e7 (0, 14, 8, 6) (by simp)
  obtain ⟨⟨g1, g2, g3, g4, g5⟩, -, -, -⟩ := e7 (1, 14, 9, 7) (by simp)
  obtain ⟨⟨h1, h2, h3, h4, h5⟩, -, -, -⟩ := e7 (2, 9, 13, 8) (by simp)
  refine v_vret0 hz hr dX0_init_36 ⟨rfl, A3, e1, e2, ⟨by rw [e2]; exact e3, ⟨by rw [e2]; exact f1, f2, f3, fun i hi => ?_⟩, ⟨by rw [e2]; exact g1, g2, g3, fun i hi => ?_⟩, ⟨by rw [e2]; exact h1, h2, h3, h4⟩⟩, ⟨by rw [e2]; exact e5, f4, g4⟩, e6⟩
  · obtain ⟨z1, z2, z3, z4, z5⟩ := x18 i hi
    exact fld_ex ⟨by rw [x12]; exact z1, z2, z3, z4⟩ (by decide) w1 s1 s6 (by omega)
  · obtain ⟨z1, z2, z3, z4, z5⟩ := x28 i hi
    exact fld_ex ⟨by rw [x22]; exact z1, z2, z3, z4⟩ (by decide) w2 u1 u6 (by omega)
