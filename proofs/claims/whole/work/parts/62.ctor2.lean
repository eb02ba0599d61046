set_option maxHeartbeats 4000000 in
set_option maxRecDepth 100000 in
theorem cX8_init_ok (l : Launch) (g : Gz) (κ : Kz) (I : Iz) (R : Rz) (J : Jz) (A : Nat → Nat) (a : Nat) (ha : A 130 = a) (hk : κ.1 a = 8) (ho : κ.2.2 a = 130) (hI : I a = fun _ => 0) : Ct l mX8_init 19 3634 g [.ref a] κ I R J (Sn (fun κ1 I1 R1 => ∃ A1, Ex (fun t => 130 ≤ t ∧ t < 160) κ I R A κ1 I1 R1 A1 ∧ A1 130 = a ∧ LM κ1 R1 A1 ∧ I1 a = (va_up (va_up (fun _ => 0) 9 (nI 5)) 10 (nI 700)))) := by
  refine ct_of (by decide) (Nat.le_of_ble_eq_true rfl) ?_
  intro z hz hr hrc hrs
  have hz : Am z cX8_init RX8 1 1 := hz
  have hr : Rt z yX8_init none 19 3634 _ := hr
  show V z 1 0 0 0 [(0, .ref a)] [] κ I R J
  have ob0 : Ob (fun t => 130 ≤ t ∧ t < 160) κ I R A a 130 8 (fun _ => 0) [] κ I R A := Ob.st ha hk (by decide) ho hI (by omega)
  refine v_aload_n hz dX8_init_0 rfl ?_
  refine v_objInit hz (tg_mem 695 (by decide +kernel) rfl) (tg_mem 89 (by decide +kernel) rfl) (tg_mem 90 (by decide +kernel) rfl) (by decide) (Nat.le_of_ble_eq_true rfl) dX8_init_1 ?_
  refine v_aload_n hz dX8_init_4 rfl ?_
  refine v_bi (v := nI 48) hz dX8_init_5 (by decide) ?_
  refine v_newI hz (131) A (by decide) ⟨by omega, by omega⟩ dX8_init_7 (fun q1 κ1 I1 R1 J1 A1 hw1 => ?_)
  obtain ⟨x11, x12, x13, x14, x15, x16, x17, x18⟩ := hw1
  have oc1 := ob0.ex x11 (fun t ht => by omega) (by omega) (by (try simp only [List.mem_cons, List.not_mem_nil, or_false, forall_eq_or_imp, forall_eq, false_implies, implies_true]); first | done | omega)
  have ka1 := oc1.2.2.1.2.1
  refine v_putR (f := 1) (ty := (.array .int)) hz hr rfl cl8 (by decide) rfl (by decide +kernel) rfl (tg_mem 697 (by decide +kernel) rfl) ka1 rfl rfl dX8_init_9 ?_
  have ob1 := oc1.put (f := 1) (k := 9) (n := 48) (t := 131) (by rw [x12]; exact x13) (by decide) (by rw [x12]; exact x14) (by rw [x12]; exact x15) (by rw [x12]; exact x16) (by omega) (by omega) (by (try simp only [List.mem_cons, List.not_mem_nil, or_false, forall_eq_or_imp, forall_eq, false_implies, implies_true]); first | done | omega)
  rw [x12] at ob1
  refine v_aload_n hz dX8_init_12 rfl ?_
  refine v_bi (v := nI 14) hz dX8_init_13 (by decide) ?_
  refine v_newI hz (134) A1 (by decide) ⟨by omega, by omega⟩ dX8_init_15 (fun q2 κ2 I2 R2 J2 A2 hw2 => ?_)
  obtain ⟨x21, x22, x23, x24, x25, x26, x27, x28⟩ := hw2
  have oc2 := ob1.ex x21 (fun t ht => by omega) (by omega) (by (try simp only [List.mem_cons, List.not_mem_nil, or_false, forall_eq_or_imp, forall_eq, false_implies, implies_true]); first | done | omega)
  have ka2 := oc2.2.2.1.2.1
  refine v_putR (f := 4) (ty := (.array .int)) hz hr rfl cl8 (by decide) rfl (by decide +kernel) rfl (tg_mem 700 (by decide +kernel) rfl) ka2 rfl rfl dX8_init_17 ?_
  have ob2 := oc2.put (f := 4) (k := 9) (n := 14) (t := 134) (by rw [x22]; exact x23) (by decide) (by rw [x22]; exact x24) (by rw [x22]; exact x25) (by rw [x22]; exact x26) (by omega) (by omega) (by (try simp only [List.mem_cons, List.not_mem_nil, or_false, forall_eq_or_imp, forall_eq, false_implies, implies_true]); first | done | omega)
  rw [x22] at ob2
  refine v_aload_n hz dX8_init_20 rfl ?_
  refine v_bi (v := nI 14) hz dX8_init_21 (by decide) ?_
  refine v_newI hz (135) A2 (by decide) ⟨by omega, by omega⟩ dX8_init_23 (fun q3 κ3 I3 R3 J3 A3 hw3 => ?_)
  obtain ⟨x31, x32, x33, x34, x35, x36, x37, x38⟩ := hw3
  have oc3 := ob2.ex x31 (fun t ht => by omega) (by omega) (by (try simp only [List.mem_cons, List.not_mem_nil, or_false, forall_eq_or_imp, forall_eq, false_implies, implies_true]); first | done | omega)
  have ka3 := oc3.2.2.1.2.1
  refine v_putR (f := 5) (ty := (.array .int)) hz hr rfl cl8 (by decide) rfl (by decide +kernel) rfl (tg_mem 701 (by decide +kernel) rfl) ka3 rfl rfl dX8_init_25 ?_
  have ob3 := oc3.put (f := 5) (k := 9) (n := 14) (t := 135) (by rw [x32]; exact x33) (by decide) (by rw [x32]; exact x34) (by rw [x32]; exact x35) (by rw [x32]; exact x36) (by omega) (by omega) (by (try simp only [List.mem_cons, List.not_mem_nil, or_false, forall_eq_or_imp, forall_eq, false_implies, implies_true]); first | done | omega)
  rw [x32] at ob3
  refine v_aload_n hz dX8_init_28 rfl ?_
  refine v_bi (v := nI 112) hz dX8_init_29 (by decide) ?_
  refine v_newI hz (136) A3 (by decide) ⟨by omega, by omega⟩ dX8_init_31 (fun q4 κ4 I4 R4 J4 A4 hw4 => ?_)
  obtain ⟨x41, x42, x43, x44, x45, x46, x47, x48⟩ := hw4
  have oc4 := ob3.ex x41 (fun t ht => by omega) (by omega) (by (try simp only [List.mem_cons, List.not_mem_nil, or_false, forall_eq_or_imp, forall_eq, false_implies, implies_true]); first | done | omega)
  have ka4 := oc4.2.2.1.2.1
  refine v_putR (f := 6) (ty := (.array .int)) hz hr rfl cl8 (by decide) rfl (by decide +kernel) rfl (tg_mem 702 (by decide +kernel) rfl) ka4 rfl rfl dX8_init_33 ?_
  have ob4 := oc4.put (f := 6) (k := 9) (n := 112) (t := 136) (by rw [x42]; exact x43) (by decide) (by rw [x42]; exact x44) (by rw [x42]; exact x45) (by rw [x42]; exact x46) (by omega) (by omega) (by (try simp only [List.mem_cons, List.not_mem_nil, or_false, forall_eq_or_imp, forall_eq, false_implies, implies_true]); first | done | omega)
  rw [x42] at ob4
  refine v_aload_n hz dX8_init_36 rfl ?_
  refine v_bi (v := nI 112) hz dX8_init_37 (by decide) ?_
  refine v_newI hz (137) A4 (by decide) ⟨by omega, by omega⟩ dX8_init_39 (fun q5 κ5 I5 R5 J5 A5 hw5 => ?_)
  obtain ⟨x51, x52, x53, x54, x55, x56, x57, x58⟩ := hw5
  have oc5 := ob4.ex x51 (fun t ht => by omega) (by omega) (by (try simp only [List.mem_cons, List.not_mem_nil, or_false, forall_eq_or_imp, forall_eq, false_implies, implies_true]); first | done | omega)
  have ka5 := oc5.2.2.1.2.1
  refine v_putR (f := 7) (ty := (.array .int)) hz hr rfl cl8 (by decide) rfl (by decide +kernel) rfl (tg_mem 703 (by decide +kernel) rfl) ka5 rfl rfl dX8_init_41 ?_
  have ob5 := oc5.put (f := 7) (k := 9) (n := 112) (t := 137) (by rw [x52]; exact x53) (by decide) (by rw [x52]; exact x54) (by rw [x52]; exact x55) (by rw [x52]; exact x56) (by omega) (by omega) (by (try simp only [List.mem_cons, List.not_mem_nil, or_false, forall_eq_or_imp, forall_eq, false_implies, implies_true]); first | done | omega)
  rw [x52] at ob5
  refine v_aload_n hz dX8_init_44 rfl ?_
  refine v_si (v := nI 1344) hz dX8_init_45 (by decide) ?_
  refine v_newI hz (138) A5 (by decide) ⟨by omega, by omega⟩ dX8_init_48 (fun q6 κ6 I6 R6 J6 A6 hw6 => ?_)
  obtain ⟨x61, x62, x63, x64, x65, x66, x67, x68⟩ := hw6
  have oc6 := ob5.ex x61 (fun t ht => by omega) (by omega) (by (try simp only [List.mem_cons, List.not_mem_nil, or_false, forall_eq_or_imp, forall_eq, false_implies, implies_true]); first | done | omega)
  have ka6 := oc6.2.2.1.2.1
  refine v_putR (f := 8) (ty := (.array .int)) hz hr rfl cl8 (by decide) rfl (by decide +kernel) rfl (tg_mem 704 (by decide +kernel) rfl) ka6 rfl rfl dX8_init_50 ?_
  have ob6 := oc6.put (f := 8) (k := 9) (n := 1344) (t := 138) (by rw [x62]; exact x63) (by decide) (by rw [x62]; exact x64) (by rw [x62]; exact x65) (by rw [x62]; exact x66) (by omega) (by omega) (by (try simp only [List.mem_cons, List.not_mem_nil, or_false, forall_eq_or_imp, forall_eq, false_implies, implies_true]); first | done | omega)
  rw [x62] at ob6
  refine v_aload_n hz dX8_init_53 rfl ?_
  refine v_ic (v := nI 5) hz dX8_init_54 (by decide) ?_
  have ka7 := ob6.2.2.1.2.1
  refine v_putI hz fX8_28 (by assumption) dX8_init_55 ?_
  have ob7 := ob6.int (f := 9) (v := nI 5)
  refine v_aload_n hz dX8_init_58 rfl ?_
  refine v_si (v := nI 700) hz dX8_init_59 (by decide) ?_
  have ka8 := ob7.2.2.1.2.1
  refine v_putI hz fX8_32 (by assumption) dX8_init_62 ?_
  have ob8 := ob7.int (f := 10) (v := nI 700)
  refine v_aload_n hz dX8_init_65 rfl ?_
  refine v_si (v := nI 169) hz dX8_init_66 (by decide) ?_
  refine v_newI hz (145) A6 (by decide) ⟨by omega, by omega⟩ dX8_init_69 (fun q9 κ9 I9 R9 J9 A9 hw9 => ?_)
  obtain ⟨x91, x92, x93, x94, x95, x96, x97, x98⟩ := hw9
  have oc9 := ob8.ex x91 (fun t ht => by omega) (by omega) (by (try simp only [List.mem_cons, List.not_mem_nil, or_false, forall_eq_or_imp, forall_eq, false_implies, implies_true]); first | done | omega)
  have ka9 := oc9.2.2.1.2.1
  refine v_putR (f := 15) (ty := (.array .int)) hz hr rfl cl8 (by decide) rfl (by decide +kernel) rfl (tg_mem 711 (by decide +kernel) rfl) ka9 rfl rfl dX8_init_71 ?_
  have ob9 := oc9.put (f := 15) (k := 9) (n := 169) (t := 145) (by rw [x92]; exact x93) (by decide) (by rw [x92]; exact x94) (by rw [x92]; exact x95) (by rw [x92]; exact x96) (by omega) (by omega) (by (try simp only [List.mem_cons, List.not_mem_nil, or_false, forall_eq_or_imp, forall_eq, false_implies, implies_true]); first | done | omega)
  rw [x92] at ob9
  refine v_aload_n hz dX8_init_74 rfl ?_
  refine v_bi (v := nI 81) hz dX8_init_75 (by decide) ?_
  refine v_newI hz (146) A9 (by decide) ⟨by omega, by omega⟩ dX8_init_77 (fun q10 κ10 I10 R10 J10 A10 hw10 => ?_)
  obtain ⟨x101, x102, x103, x104, x105, x106, x107, x108⟩ := hw10
  have oc10 := ob9.ex x101 (fun t ht => by omega) (by omega) (by (try simp only [List.mem_cons, List.not_mem_nil, or_false, forall_eq_or_imp, forall_eq, false_implies, implies_true]); first | done | omega)
  have ka10 := oc10.2.2.1.2.1
  refine v_putR (f := 16) (ty := (.array .int)) hz hr rfl cl8 (by decide) rfl (by decide +kernel) rfl (tg_mem 712 (by decide +kernel) rfl) ka10 rfl rfl dX8_init_79 ?_
  have ob10 := oc10.put (f := 16) (k := 9) (n := 81) (t := 146) (by rw [x102]; exact x103) (by decide) (by rw [x102]; exact x104) (by rw [x102]; exact x105) (by rw [x102]; exact x106) (by omega) (by omega) (by (try simp only [List.mem_cons, List.not_mem_nil, or_false, forall_eq_or_imp, forall_eq, false_implies, implies_true]); first | done | omega)
  rw [x102] at ob10
  refine v_aload_n hz dX8_init_82 rfl ?_
  refine v_bi (v := nI 64) hz dX8_init_83 (by decide) ?_
  refine v_newI hz (147) A10 (by decide) ⟨by omega, by omega⟩ dX8_init_85 (fun q11 κ11 I11 R11 J11 A11 hw11 => ?_)
  obtain ⟨x111, x112, x113, x114, x115, x116, x117, x118⟩ := hw11
  have oc11 := ob10.ex x111 (fun t ht => by omega) (by omega) (by (try simp only [List.mem_cons, List.not_mem_nil, or_false, forall_eq_or_imp, forall_eq, false_implies, implies_true]); first | done | omega)
  have ka11 := oc11.2.2.1.2.1
  refine v_putR (f := 17) (ty := (.array .int)) hz hr rfl cl8 (by decide) rfl (by decide +kernel) rfl (tg_mem 713 (by decide +kernel) rfl) ka11 rfl rfl dX8_init_87 ?_
  have ob11 := oc11.put (f := 17) (k := 9) (n := 64) (t := 147) (by rw [x112]; exact x113) (by decide) (by rw [x112]; exact x114) (by rw [x112]; exact x115) (by rw [x112]; exact x116) (by omega) (by omega) (by (try simp only [List.mem_cons, List.not_mem_nil, or_false, forall_eq_or_imp, forall_eq, false_implies, implies_true]); first | done | omega)
  rw [x112] at ob11
  refine v_aload_n hz dX8_init_90 rfl ?_
  refine v_bi (v := nI 16) hz dX8_init_91 (by decide) ?_
  refine v_newI hz (149) A11 (by decide) ⟨by omega, by omega⟩ dX8_init_93 (fun q12 κ12 I12 R12 J12 A12 hw12 => ?_)
  obtain ⟨x121, x122, x123, x124, x125, x126, x127, x128⟩ := hw12
  have oc12 := ob11.ex x121 (fun t ht => by omega) (by omega) (by (try simp only [List.mem_cons, List.not_mem_nil, or_false, forall_eq_or_imp, forall_eq, false_implies, implies_true]); first | done | omega)
  have ka12 := oc12.2.2.1.2.1
  refine v_putR (f := 19) (ty := (.array .int)) hz hr rfl cl8 (by decide) rfl (by decide +kernel) rfl (tg_mem 715 (by decide +kernel) rfl) ka12 rfl rfl dX8_init_95 ?_
  have ob12 := oc12.put (f := 19) (k := 9) (n := 16) (t := 149) (by rw [x122]; exact x123) (by decide) (by rw [x122]; exact x124) (by rw [x122]; exact x125) (by rw [x122]; exact x126) (by omega) (by omega) (by (try simp only [List.mem_cons, List.not_mem_nil, or_false, forall_eq_or_imp, forall_eq, false_implies, implies_true]); first | done | omega)
  rw [x122] at ob12
  refine v_aload_n hz dX8_init_98 rfl ?_
  refine v_bi (v := nI 16) hz dX8_init_99 (by decide) ?_
  refine v_newI hz (150) A12 (by decide) ⟨by omega, by omega⟩ dX8_init_101 (fun q13 κ13 I13 R13 J13 A13 hw13 => ?_)
  obtain ⟨x131, x132, x133, x134, x135, x136, x137, x138⟩ := hw13
  have oc13 := ob12.ex x131 (fun t ht => by omega) (by omega) (by (try simp only [List.mem_cons, List.not_mem_nil, or_false, forall_eq_or_imp, forall_eq, false_implies, implies_true]); first | done | omega)
  have ka13 := oc13.2.2.1.2.1
  refine v_putR (f := 20) (ty := (.array .int)) hz hr rfl cl8 (by decide) rfl (by decide +kernel) rfl (tg_mem 716 (by decide +kernel) rfl) ka13 rfl rfl dX8_init_103 ?_
  have ob13 := oc13.put (f := 20) (k := 9) (n := 16) (t := 150) (by rw [x132]; exact x133) (by decide) (by rw [x132]; exact x134) (by rw [x132]; exact x135) (by rw [x132]; exact x136) (by omega) (by omega) (by (try simp only [List.mem_cons, List.not_mem_nil, or_false, forall_eq_or_imp, forall_eq, false_implies, implies_true]); first | done | omega)
  rw [x132] at ob13
  refine v_aload_n hz dX8_init_106 rfl ?_
  refine v_bi (v := nI 16) hz dX8_init_107 (by decide) ?_
  refine v_newI hz (151) A13 (by decide) ⟨by omega, by omega⟩ dX8_init_109 (fun q14 κ14 I14 R14 J14 A14 hw14 => ?_)
  obtain ⟨x141, x142, x143, x144, x145, x146, x147, x148⟩ := hw14
  have oc14 := ob13.ex x141 (fun t ht => by omega) (by omega) (by (try simp only [List.mem_cons, List.not_mem_nil, or_false, forall_eq_or_imp, forall_eq, false_implies, implies_true]); first | done | omega)
  have ka14 := oc14.2.2.1.2.1
  refine v_putR (f := 21) (ty := (.array .int)) hz hr rfl cl8 (by decide) rfl (by decide +kernel) rfl (tg_mem 717 (by decide +kernel) rfl) ka14 rfl rfl dX8_init_111 ?_
  have ob14 := oc14.put (f := 21) (k := 9) (n := 16) (t := 151) (by rw [x142]; exact x143) (by decide) (by rw [x142]; exact x144) (by rw [x142]; exact x145) (by rw [x142]; exact x146) (by omega) (by omega) (by (try simp only [List.mem_cons, List.not_mem_nil, or_false, forall_eq_or_imp, forall_eq, false_implies, implies_true]); first | done | omega)
  rw [x142] at ob14
  refine v_aload_n hz dX8_init_114 rfl ?_
  refine v_bi (v := nI 16) hz dX8_init_115 (by decide) ?_
  refine v_newI hz (152) A14 (by decide) ⟨by omega, by omega⟩ dX8_init_117 (fun q15 κ15 I15 R15 J15 A15 hw15 => ?_)
  obtain ⟨x151, x152, x153, x154, x155, x156, x157, x158⟩ := hw15
  have oc15 := ob14.ex x151 (fun t ht => by omega) (by omega) (by (try simp only [List.mem_cons, List.not_mem_nil, or_false, forall_eq_or_imp, forall_eq, false_implies, implies_true]); first | done | omega)
  have ka15 := oc15.2.2.1.2.1
  refine v_putR (f := 22) (ty := (.array .int)) hz hr rfl cl8 (by decide) rfl (by decide +kernel) rfl (tg_mem 718 (by decide +kernel) rfl) ka15 rfl rfl dX8_init_119 ?_
  have ob15 := oc15.put (f := 22) (k := 9) (n := 16) (t := 152) (by rw [x152]; exact x153) (by decide) (by rw [x152]; exact x154) (by rw [x152]; exact x155) (by rw [x152]; exact x156) (by omega) (by omega) (by (try simp only [List.mem_cons, List.not_mem_nil, or_false, forall_eq_or_imp, forall_eq, false_implies, implies_true]); first | done | omega)
  rw [x152] at ob15
  refine v_aload_n hz dX8_init_122 rfl ?_
  refine v_si (v := nI 784) hz dX8_init_123 (by decide) ?_
  refine v_newI hz (153) A15 (by decide) ⟨by omega, by omega⟩ dX8_init_126 (fun q16 κ16 I16 R16 J16 A16 hw16 => ?_)
  obtain ⟨x161, x162, x163, x164, x165, x166, x167, x168⟩ := hw16
  have oc16 := ob15.ex x161 (fun t ht => by omega) (by omega) (by (try simp only [List.mem_cons, List.not_mem_nil, or_false, forall_eq_or_imp, forall_eq, false_implies, implies_true]); first | done | omega)
  have ka16 := oc16.2.2.1.2.1
  refine v_putR (f := 23) (ty := (.array .int)) hz hr rfl cl8 (by decide) rfl (by decide +kernel) rfl (tg_mem 719 (by decide +kernel) rfl) ka16 rfl rfl dX8_init_128 ?_
  have ob16 := oc16.put (f := 23) (k := 9) (n := 784) (t := 153) (by rw [x162]; exact x163) (by decide) (by rw [x162]; exact x164) (by rw [x162]; exact x165) (by rw [x162]; exact x166) (by omega) (by omega) (by (try simp only [List.mem_cons, List.not_mem_nil, or_false, forall_eq_or_imp, forall_eq, false_implies, implies_true]); first | done | omega)
  rw [x162] at ob16
  refine v_aload_n hz dX8_init_131 rfl ?_
  refine v_bi (v := nI 12) hz dX8_init_132 (by decide) ?_
  refine v_newI hz (155) A16 (by decide) ⟨by omega, by omega⟩ dX8_init_134 (fun q17 κ17 I17 R17 J17 A17 hw17 => ?_)
  obtain ⟨x171, x172, x173, x174, x175, x176, x177, x178⟩ := hw17
  have oc17 := ob16.ex x171 (fun t ht => by omega) (by omega) (by (try simp only [List.mem_cons, List.not_mem_nil, or_false, forall_eq_or_imp, forall_eq, false_implies, implies_true]); first | done | omega)
  have ka17 := oc17.2.2.1.2.1
  refine v_putR (f := 25) (ty := (.array .int)) hz hr rfl cl8 (by decide) rfl (by decide +kernel) rfl (tg_mem 721 (by decide +kernel) rfl) ka17 rfl rfl dX8_init_136 ?_
  have ob17 := oc17.put (f := 25) (k := 9) (n := 12) (t := 155) (by rw [x172]; exact x173) (by decide) (by rw [x172]; exact x174) (by rw [x172]; exact x175) (by rw [x172]; exact x176) (by omega) (by omega) (by (try simp only [List.mem_cons, List.not_mem_nil, or_false, forall_eq_or_imp, forall_eq, false_implies, implies_true]); first | done | omega)
  rw [x172] at ob17
  refine v_aload_n hz dX8_init_139 rfl ?_
  refine v_bi (v := nI 12) hz dX8_init_140 (by decide) ?_
  refine v_newI hz (156) A17 (by decide) ⟨by omega, by omega⟩ dX8_init_142 (fun q18 κ18 I18 R18 J18 A18 hw18 => ?_)
  obtain ⟨x181, x182, x183, x184, x185, x186, x187, x188⟩ := hw18
  have oc18 := ob17.ex x181 (fun t ht => by omega) (by omega) (by (try simp only [List.mem_cons, List.not_mem_nil, or_false, forall_eq_or_imp, forall_eq, false_implies, implies_true]); first | done | omega)
  have ka18 := oc18.2.2.1.2.1
  refine v_putR (f := 26) (ty := (.array .int)) hz hr rfl cl8 (by decide) rfl (by decide +kernel) rfl (tg_mem 722 (by decide +kernel) rfl) ka18 rfl rfl dX8_init_144 ?_
  have ob18 := oc18.put (f := 26) (k := 9) (n := 12) (t := 156) (by rw [x182]; exact x183) (by decide) (by rw [x182]; exact x184) (by rw [x182]; exact x185) (by rw [x182]; exact x186) (by omega) (by omega) (by (try simp only [List.mem_cons, List.not_mem_nil, or_false, forall_eq_or_imp, forall_eq, false_implies, implies_true]); first | done | omega)
  rw [x182] at ob18
  refine v_aload_n hz dX8_init_147 rfl ?_
  refine v_bi (v := nI 12) hz dX8_init_148 (by decide) ?_
  refine v_newI hz (157) A18 (by decide) ⟨by omega, by omega⟩ dX8_init_150 (fun q19 κ19 I19 R19 J19 A19 hw19 => ?_)
  obtain ⟨x191, x192, x193, x194, x195, x196, x197, x198⟩ := hw19
  have oc19 := ob18.ex x191 (fun t ht => by omega) (by omega) (by (try simp only [List.mem_cons, List.not_mem_nil, or_false, forall_eq_or_imp, forall_eq, false_implies, implies_true]); first | done | omega)
  have ka19 := oc19.2.2.1.2.1
  refine v_putR (f := 27) (ty := (.array .int)) hz hr rfl cl8 (by decide) rfl (by decide +kernel) rfl (tg_mem 723 (by decide +kernel) rfl) ka19 rfl rfl dX8_init_152 ?_
  have ob19 := oc19.put (f := 27) (k := 9) (n := 12) (t := 157) (by rw [x192]; exact x193) (by decide) (by rw [x192]; exact x194) (by rw [x192]; exact x195) (by rw [x192]; exact x196) (by omega) (by omega) (by (try simp only [List.mem_cons, List.not_mem_nil, or_false, forall_eq_or_imp, forall_eq, false_implies, implies_true]); first | done | omega)
  rw [x192] at ob19
  refine v_aload_n hz dX8_init_155 rfl ?_
  refine v_bi (v := nI 8) hz dX8_init_156 (by decide) ?_
  refine v_newZ hz (158) A19 (by decide) ⟨by omega, by omega⟩ dX8_init_158 (fun q20 κ20 I20 R20 J20 A20 hw20 => ?_)
  obtain ⟨x201, x202, x203, x204, x205, x206, x207, x208⟩ := hw20
  have oc20 := ob19.ex x201 (fun t ht => by omega) (by omega) (by (try simp only [List.mem_cons, List.not_mem_nil, or_false, forall_eq_or_imp, forall_eq, false_implies, implies_true]); first | done | omega)
  have ka20 := oc20.2.2.1.2.1
  refine v_putR (f := 28) (ty := (.array .boolean)) hz hr rfl cl8 (by decide) rfl (by decide +kernel) rfl (tg_mem 724 (by decide +kernel) rfl) ka20 rfl rfl dX8_init_160 ?_
  have ob20 := oc20.put (f := 28) (k := 10) (n := 8) (t := 158) (by rw [x202]; exact x203) (by decide) (by rw [x202]; exact x204) (by rw [x202]; exact x205) (by rw [x202]; exact x206) (by omega) (by omega) (by (try simp only [List.mem_cons, List.not_mem_nil, or_false, forall_eq_or_imp, forall_eq, false_implies, implies_true]); first | done | omega)
  rw [x202] at ob20
  refine v_aload_n hz dX8_init_163 rfl ?_
  refine v_si (v := nI 784) hz dX8_init_164 (by decide) ?_
  refine v_newZ hz (159) A20 (by decide) ⟨by omega, by omega⟩ dX8_init_167 (fun q21 κ21 I21 R21 J21 A21 hw21 => ?_)
  obtain ⟨x211, x212, x213, x214, x215, x216, x217, x218⟩ := hw21
  have oc21 := ob20.ex x211 (fun t ht => by omega) (by omega) (by (try simp only [List.mem_cons, List.not_mem_nil, or_false, forall_eq_or_imp, forall_eq, false_implies, implies_true]); first | done | omega)
  have ka21 := oc21.2.2.1.2.1
  refine v_putR (f := 29) (ty := (.array .boolean)) hz hr rfl cl8 (by decide) rfl (by decide +kernel) rfl (tg_mem 725 (by decide +kernel) rfl) ka21 rfl rfl dX8_init_169 ?_
  have ob21 := oc21.put (f := 29) (k := 10) (n := 784) (t := 159) (by rw [x212]; exact x213) (by decide) (by rw [x212]; exact x214) (by rw [x212]; exact x215) (by rw [x212]; exact x216) (by omega) (by omega) (by (try simp only [List.mem_cons, List.not_mem_nil, or_false, forall_eq_or_imp, forall_eq, false_implies, implies_true]); first | done | omega)
  rw [x212] at ob21
  obtain ⟨e0, e1, ⟨e2, e3, e4, e5, e6⟩, e7⟩ := ob21
  refine v_vret0 hz hr dX8_init_172 ⟨rfl, A21, e1, e2, ⟨by rw [e2]; exact e3, by rw [e2]; exact e5, fun f t n hf => ?_⟩, e6⟩
  rw [e2]
  unfold mArr at hf
  simp only [List.mem_cons, List.not_mem_nil, or_false, Prod.mk.injEq] at hf
  rcases hf with ⟨rfl, rfl, rfl⟩ | ⟨rfl, rfl, rfl⟩ | ⟨rfl, rfl, rfl⟩ | ⟨rfl, rfl, rfl⟩ | ⟨rfl, rfl, rfl⟩ | ⟨rfl, rfl, rfl⟩ | ⟨rfl, rfl, rfl⟩ | ⟨rfl, rfl, rfl⟩ | ⟨rfl, rfl, rfl⟩ | ⟨rfl, rfl, rfl⟩ | ⟨rfl, rfl, rfl⟩ | ⟨rfl, rfl, rfl⟩ | ⟨rfl, rfl, rfl⟩ | ⟨rfl, rfl, rfl⟩ | ⟨rfl, rfl, rfl⟩ | ⟨rfl, rfl, rfl⟩ | ⟨rfl, rfl, rfl⟩ | ⟨rfl, rfl, rfl⟩ | ⟨rfl, rfl, rfl⟩
  · obtain ⟨⟨f1, f2, f3, f4, f5⟩, -, -, -⟩ := e7 (1, 9, 48, 131) (by decide)
    exact ⟨f1, f2, f3, f4⟩
  · obtain ⟨⟨f1, f2, f3, f4, f5⟩, -, -, -⟩ := e7 (4, 9, 14, 134) (by decide)
    exact ⟨f1, f2, f3, f4⟩
  · obtain ⟨⟨f1, f2, f3, f4, f5⟩, -, -, -⟩ := e7 (5, 9, 14, 135) (by decide)
    exact ⟨f1, f2, f3, f4⟩
  · obtain ⟨⟨f1, f2, f3, f4, f5⟩, -, -, -⟩ := e7 (6, 9, 112, 136) (by decide)
    exact ⟨f1, f2, f3, f4⟩
  · obtain ⟨⟨f1, f2, f3, f4, f5⟩, -, -, -⟩ := e7 (7, 9, 112, 137) (by decide)
    exact ⟨f1, f2, f3, f4⟩
  · obtain ⟨⟨f1, f2, f3, f4, f5⟩, -, -, -⟩ := e7 (8, 9, 1344, 138) (by decide)
    exact ⟨f1, f2, f3, f4⟩
  · obtain ⟨⟨f1, f2, f3, f4, f5⟩, -, -, -⟩ := e7 (15, 9, 169, 145) (by decide)
    exact ⟨f1, f2, f3, f4⟩
  · obtain ⟨⟨f1, f2, f3, f4, f5⟩, -, -, -⟩ := e7 (16, 9, 81, 146) (by decide)
    exact ⟨f1, f2, f3, f4⟩
  · obtain ⟨⟨f1, f2, f3, f4, f5⟩, -, -, -⟩ := e7 (17, 9, 64, 147) (by decide)
    exact ⟨f1, f2, f3, f4⟩
  · obtain ⟨⟨f1, f2, f3, f4, f5⟩, -, -, -⟩ := e7 (19, 9, 16, 149) (by decide)
    exact ⟨f1, f2, f3, f4⟩
  · obtain ⟨⟨f1, f2, f3, f4, f5⟩, -, -, -⟩ := e7 (20, 9, 16, 150) (by decide)
    exact ⟨f1, f2, f3, f4⟩
  · obtain ⟨⟨f1, f2, f3, f4, f5⟩, -, -, -⟩ := e7 (21, 9, 16, 151) (by decide)
    exact ⟨f1, f2, f3, f4⟩
  · obtain ⟨⟨f1, f2, f3, f4, f5⟩, -, -, -⟩ := e7 (22, 9, 16, 152) (by decide)
    exact ⟨f1, f2, f3, f4⟩
  · obtain ⟨⟨f1, f2, f3, f4, f5⟩, -, -, -⟩ := e7 (23, 9, 784, 153) (by decide)
    exact ⟨f1, f2, f3, f4⟩
  · obtain ⟨⟨f1, f2, f3, f4, f5⟩, -, -, -⟩ := e7 (25, 9, 12, 155) (by decide)
    exact ⟨f1, f2, f3, f4⟩
  · obtain ⟨⟨f1, f2, f3, f4, f5⟩, -, -, -⟩ := e7 (26, 9, 12, 156) (by decide)
    exact ⟨f1, f2, f3, f4⟩
  · obtain ⟨⟨f1, f2, f3, f4, f5⟩, -, -, -⟩ := e7 (27, 9, 12, 157) (by decide)
    exact ⟨f1, f2, f3, f4⟩
  · obtain ⟨⟨f1, f2, f3, f4, f5⟩, -, -, -⟩ := e7 (28, 10, 8, 158) (by decide)
    exact ⟨f1, f2, f3, f4⟩
  · obtain ⟨⟨f1, f2, f3, f4, f5⟩, -, -, -⟩ := e7 (29, 10, 784, 159) (by decide)
    exact ⟨f1, f2, f3, f4⟩
set_option maxHeartbeats 4000000 in
set_option maxRecDepth 100000 in
theorem lp_sgi {z : Zz} {κ0 : Kz} {I0 : Iz} {R0 : Rz} {A0 : Nat → Nat} {a b : Nat} (hz : Am z cX5_init RX5 2 2) (hrc : 1 + 2 * 8 ≤ (zR z).cells) (hrs : 8 + 15 * 8 ≤ (zR z).slots) (K : ∀ (κ : Kz) (I : Iz) (R : Rz) (J : Jz) (A : Nat → Nat), Ob (fun t => b ≤ t ∧ t < b + 19) κ0 I0 R0 A0 a b 5 (fun _ => 0) [(0, 13, 8, b + 1)] κ I R A → (∀ j, j < 8 → R (A (b + 1)) j = some (A (b + 3 + 2 * j)) ∧ LSg κ R A (b + 3 + 2 * j) ∧ ZC κ I A (b + 3 + 2 * j) ((b + 3 + 2 * j) + 2)) → V z 2 (1 + 2 * 8) (8 + 15 * 8) 43 [(0, .ref a)] [] κ I R J) :
    ∀ (m i : Nat) (κ : Kz) (I : Iz) (R : Rz) (J : Jz) (A : Nat → Nat), i ≤ 8 → 9 ≤ i + m → Ob (fun t => b ≤ t ∧ t < b + 19) κ0 I0 R0 A0 a b 5 (fun _ => 0) [(0, 13, 8, b + 1)] κ I R A → (∀ j, j < i → R (A (b + 1)) j = some (A (b + 3 + 2 * j)) ∧ LSg κ R A (b + 3 + 2 * j) ∧ ZC κ I A (b + 3 + 2 * j) ((b + 3 + 2 * j) + 2)) → V z 2 (1 + 2 * i) (8 + 15 * i) 15 [(0, .ref a), (1, .int (nI i))] [] κ I R J := by
  intro m
  induction m with
  | zero => intro i κ I R J A hi hm9; exact absurd hm9 (by omega)
  | succ m ih =>
  intro i κ I R J A hi hm9 ob hrow
  have ka := ob.2.2.1.2.1
  obtain ⟨⟨f1, f2, f3, f4, f5⟩, -, -, -⟩ := ob.2.2.2 (0, 13, 8, (b + 1)) (by simp)
  have f1 : R a 0 = some (A (b + 1)) := f1
  have f2 : κ.1 (A (b + 1)) = 13 := f2
  have f3 : κ.2.1 (A (b + 1)) = 8 := f3
  have f4 : κ.2.2 (A (b + 1)) = (b + 1) := f4
  refine v_iload_n hz dX5_init_15 rfl ?_
  refine v_aload_n hz dX5_init_16 rfl ?_
  refine v_getR hz fX5_11 (by assumption) f1 dX5_init_17 ?_
  refine v_alenN hz (by omega) f3 dX5_init_20 ?_
  with_reducible refine v_icmp_geN hz 43 (by omega) (by omega) dX5_init_21 (by decide) (fun c21 => ?_) (fun c21 => ?_)
  · have e : i = 8 := by omega
    subst e
    exact v_sub (K κ I R J A ob hrow) ⟨rfl, trivial⟩
  · refine v_aload_n hz dX5_init_24 rfl ?_
    refine v_getR hz fX5_11 (by assumption) f1 dX5_init_25 ?_
    refine v_iload_n hz dX5_init_28 rfl ?_
    refine v_new hz cl6 tyX6_ok dfX6 (tg_mem 125 (by decide +kernel) rfl) (tg_mem 127 (by decide +kernel) rfl) (tg_mem 76 (by decide +kernel) rfl) ((b + 3 + 2 * i)) A ⟨by omega, by omega⟩ dX5_init_29 (fun q1 κ1 I1 R1 J1 A1 hw1 => ?_)
    obtain ⟨x11, x12, x13, x14, x15, x16, x17, x18⟩ := hw1
    refine v_dup hz dX5_init_32 rfl ?_
    refine v_callIn hz lX5_17 rfl rfl (cX6_init_ok _ _ _ _ _ _ A1 q1 (b + 3 + 2 * i) x12 x13 x15 x16) rfl rfl (Nat.le_of_ble_eq_true rfl) (by decide) ⟨by omega, by omega⟩ dX5_init_33 (fun κ2 I2 R2 J2 hc2 => ?_)
    obtain ⟨A2, e2, eb2, el2, ez2⟩ := hc2
    have eA : A2 (b + 1) = A (b + 1) := (e2.2.1 _ (by omega)).trans (x11.2.1 _ (by omega))
    have oc1 := ob.ex x11 (fun t ht => by omega) (by omega) (by (try simp only [List.mem_cons, List.not_mem_nil, or_false, forall_eq_or_imp, forall_eq, false_implies, implies_true]); first | done | omega)
    have oc2 := oc1.ex e2 (fun t ht => by omega) (by omega) (by (try simp only [List.mem_cons, List.not_mem_nil, or_false, forall_eq_or_imp, forall_eq, false_implies, implies_true]); first | done | omega)
    obtain ⟨⟨g1, g2, g3, g4, g5⟩, -, -, -⟩ := oc2.2.2.2 (0, 13, 8, (b + 1)) (by simp)
    have g2 : κ2.1 (A2 (b + 1)) = 13 := g2
    have g3 : κ2.2.1 (A2 (b + 1)) = 8 := g3
    have g4 : κ2.2.2 (A2 (b + 1)) = (b + 1) := g4
    rw [← eA]
    refine v_aastN hz (t0 := 4) (ci := 6) g2 rfl (show κ2.1 q1 = 6 from (by rw [← eb2]; exact el2.1)) rfl (by decide) (by decide) g3 (by omega) (by decide) dX5_init_36 ?_
    first | refine v_iincN hz 1 dX5_init_37 (by decide) rfl (by decide) rfl ?_ | refine v_iinc hz dX5_init_37 rfl (by decide) rfl ?_
    refine v_goto hz 15 dX5_init_40 (by decide) ?_
    have ow := oc2.arr (t := (b + 1)) (j := i) (y := some q1) g4 (by omega) (by omega)
    have ep : Ex (fun t => t = (b + 1)) κ2 I2 R2 A2 κ2 I2 (u2 R2 (A2 (b + 1)) i (some q1)) A2 := Ex.rf.putR (fun _ => g4)
    have eq : Ex (fun t => t = (b + 1) ∨ ((b + 3 + 2 * i) ≤ t ∧ t < (b + 3 + 2 * i) + 2)) κ I R A κ2 I2 (u2 R2 (A2 (b + 1)) i (some q1)) A2 := (x11.wid (fun t ht => by omega)).tr ((e2.wid (fun t ht => by omega)).tr (ep.wid (fun t ht => by omega)))
    refine v_sub (ih (i + 1) κ2 I2 _ J2 A2 (by omega) (by omega) ow (fun j hj => ?_)) ⟨rfl, rfl, trivial⟩
    by_cases e : j = i
    · rw [e, u2_eq, eb2]
      exact ⟨rfl, el2.ex ep (by omega) (by omega), ez2.ex ep (fun t h1 h2 => by omega)⟩
    · obtain ⟨y1, y2, y3⟩ := hrow j (by omega)
      refine ⟨?_, y2.ex eq (by omega) (by omega), y3.ex eq (fun t h1 h2 => by omega)⟩
      obtain ⟨s1, s2, s3, s4, s5, s6⟩ := ((x11.wid (T2 := fun t => (b + 3 + 2 * i) ≤ t ∧ t < (b + 3 + 2 * i) + 2) (fun t ht => by omega)).tr (e2.wid (fun t ht => by omega))).sm (t := (b + 1)) (by rw [f2]; decide) f4 (by omega)
      rw [u2_at e, s1, s6, eq.2.1 (b + 3 + 2 * j) (by omega)]
      exact y1
set_option maxHeartbeats 4000000 in
set_option maxRecDepth 100000 in
theorem cX5_init_ok (l : Launch) (g : Gz) (κ : Kz) (I : Iz) (R : Rz) (J : Jz) (A : Nat → Nat) (a b : Nat) (ha : A b = a) (hk : κ.1 a = 5) (ho : κ.2.2 a = b) (hI : I a = fun _ => 0) : Ct l mX5_init 18 184 g [.ref a] κ I R J (Sn (fun κ1 I1 R1 => ∃ A1, Ex (fun t => b ≤ t ∧ t < b + 19) κ I R A κ1 I1 R1 A1 ∧ A1 b = a ∧ LGg κ1 R1 A1 b ∧ ZC κ1 I1 A1 b (b + 19))) := by
  refine ct_of (by decide) (Nat.le_of_ble_eq_true rfl) ?_
  intro z hz hr hrc hrs
  have hz : Am z cX5_init RX5 2 2 := hz
  have hr : Rt z yX5_init none 18 184 _ := hr
  show V z 2 0 0 0 [(0, .ref a)] [] κ I R J
  have ob0 : Ob (fun t => b ≤ t ∧ t < b + 19) κ I R A a b 5 (fun _ => 0) [] κ I R A := Ob.st ha hk (by decide) ho hI (by omega)
  refine v_aload_n hz dX5_init_0 rfl ?_
  refine v_objInit hz (tg_mem 124 (by decide +kernel) rfl) (tg_mem 89 (by decide +kernel) rfl) (tg_mem 90 (by decide +kernel) rfl) (by decide) (Nat.le_of_ble_eq_true rfl) dX5_init_1 ?_
  refine v_aload_n hz dX5_init_4 rfl ?_
  refine v_bi (v := nI 8) hz dX5_init_5 (by decide) ?_
  refine v_anew hz (t0 := 4) (b + 1) A (tg_mem 125 (by decide +kernel) rfl) (fun _ _ h => h.2.2.2.2.1) rfl (by decide) (by decide) ⟨by omega, by omega⟩ dX5_init_7 (fun q1 κ1 I1 R1 J1 A1 hw1 => ?_)
  obtain ⟨x11, x12, x13, x14, x15, x16, x17, x18⟩ := hw1
  have oc1 := ob0.ex x11 (fun t ht => by omega) (by omega) (by (try simp only [List.mem_cons, List.not_mem_nil, or_false, forall_eq_or_imp, forall_eq, false_implies, implies_true]); first | done | omega)
  have ka1 := oc1.2.2.1.2.1
  refine v_putR (f := 0) (ty := (.array (.object "NearPhrases$Sign"))) hz hr rfl cl5 (by decide) rfl (by decide +kernel) rfl (tg_mem 147 (by decide +kernel) rfl) ka1 rfl rfl dX5_init_10 ?_
  have ob1 := oc1.put (f := 0) (k := 13) (n := 8) (t := b + 1) (by rw [x12]; exact x13) (by decide) (by rw [x12]; exact x14) (by rw [x12]; exact x15) (by rw [x12]; exact x16) (by omega) (by omega) (by (try simp only [List.mem_cons, List.not_mem_nil, or_false, forall_eq_or_imp, forall_eq, false_implies, implies_true]); first | done | omega)
  rw [x12] at ob1
  refine v_ic (v := nI 0) hz dX5_init_13 (by decide) ?_
  refine v_istore_n hz dX5_init_14 (by decide) rfl ?_
  refine v_sub (lp_sgi hz (by omega) (by omega) (fun κ I R J A ob hrow => ?_) 9 0 κ1 I1 _ J1 A1 (by omega) (by omega) ob1 (fun j hj => absurd hj (Nat.not_lt_zero j))) ⟨rfl, rfl, trivial⟩
  refine v_aload_n hz dX5_init_43 rfl ?_
  refine v_bi (v := nI 56) hz dX5_init_44 (by decide) ?_
  refine v_newI hz (b + 2) A (by decide) ⟨by omega, by omega⟩ dX5_init_46 (fun q2 κ2 I2 R2 J2 A2 hw2 => ?_)
  obtain ⟨x21, x22, x23, x24, x25, x26, x27, x28⟩ := hw2
  have oc2 := ob.ex x21 (fun t ht => by omega) (by omega) (by (try simp only [List.mem_cons, List.not_mem_nil, or_false, forall_eq_or_imp, forall_eq, false_implies, implies_true]); first | done | omega)
  have ka2 := oc2.2.2.1.2.1
  refine v_putR (f := 1) (ty := (.array .int)) hz hr rfl cl5 (by decide) rfl (by decide +kernel) rfl (tg_mem 150 (by decide +kernel) rfl) ka2 rfl rfl dX5_init_48 ?_
  have ob2 := oc2.put (f := 1) (k := 9) (n := 56) (t := b + 2) (by rw [x22]; exact x23) (by decide) (by rw [x22]; exact x24) (by rw [x22]; exact x25) (by rw [x22]; exact x26) (by omega) (by omega) (by (try simp only [List.mem_cons, List.not_mem_nil, or_false, forall_eq_or_imp, forall_eq, false_implies, implies_true]); first | done | omega)
  rw [x22] at ob2
  have eR : Ex (fun t => t = b ∨ t = b + 2) κ I R A κ2 I2 (u2 R2 a 1 (some q2)) A2 := (x21.wid (fun t ht => by omega)).putR (fun _ => by rw [ob.2.2.1.2.2.2.1]; exact Or.inl rfl)
  obtain ⟨e0, e1, ⟨e2, e3, e4, e5, e6⟩, e7⟩ := ob2
  obtain ⟨⟨f1, f2, f3, f4, f5⟩, -, -, -⟩ := e7 (0, 13, 8, b + 1) (by simp)
  obtain ⟨⟨g1, g2, g3, g4, g5⟩, -, -, -⟩ := e7 (1, 9, 56, b + 2) (by simp)
  obtain ⟨⟨y1, y2, y3, y4, y5⟩, -, -, -⟩ := ob.2.2.2 (0, 13, 8, b + 1) (by simp)
  have y2 : κ.1 (A (b + 1)) = 13 := y2
  have y4 : κ.2.2 (A (b + 1)) = b + 1 := y4
  obtain ⟨s1, s2, s3, s4, s5, s6⟩ := eR.sm (t := b + 1) (by rw [y2]; decide) y4 (by omega)
  refine v_vret0 hz hr dX5_init_51 ⟨rfl, A2, e1, e2, ⟨by rw [e2]; exact e3, by rw [e2]; exact e5, ⟨by rw [e2]; exact f1, f2, f3, f4⟩, ⟨by rw [e2]; exact g1, g2, g3, g4⟩, fun i hi => ?_⟩, ?_⟩
  · obtain ⟨z1, z2, z3⟩ := hrow i hi
    exact ⟨by rw [s1, s6, eR.2.1 _ (by omega)]; exact z1, z2.ex eR (by omega) (by omega)⟩
  · refine ((ZC.one (by rw [e2, e3]; decide) (by rw [e2]; exact e5) (by rw [e2]; exact e6)).app (ZC.one (by rw [f2]; show (13 : Nat) < 15; decide) f4 f5)).app ((ZC.one (t := b + 2) (by rw [g2]; show (9 : Nat) < 15; decide) g4 g5).app (hi := b + 19) (fun t h1 h2 => ?_))
    obtain ⟨z1, z2, z3⟩ := hrow ((t - b - 3) / 2) (by omega)
    exact (z3.ex eR (fun t h1 h2 => by omega)) t (by omega) (by omega)
