/-! ===== the reference: slots copied and compared ===== -/
def ifr {α : Type} (lo n : Nat) (f g : Nat → α) (j : Nat) : α := if lo ≤ j ∧ j < lo + n then f (j - lo) else g j
theorem ifr_s {lo n : Nat} {f g h : Nat → Int32} {x : Int32} {j : Nat} (hg : ∀ j, g j = ifr lo n f h j) (hx : x = f n) : (if j = lo + n then x else g j) = ifr lo (n + 1) f h j := by
  unfold ifr at *
  by_cases e : j = lo + n
  · rw [if_pos e, if_pos (by omega), hx, e, Nat.add_sub_cancel_left]
  · rw [if_neg e, hg]
    by_cases q : lo ≤ j ∧ j < lo + n
    · rw [if_pos q, if_pos (by omega)]
    · rw [if_neg q, if_neg (by omega)]
/-- the slot s, copied into the slot d as far as k of its signs and k2 of its letters -/
def cpS (A : Nat → Nat) (I0 I : Iz) (s d k k2 : Nat) : Prop := (∀ a, a ≠ A 134 → a ≠ A 135 → a ≠ A 136 → a ≠ A 137 → a ≠ A 138 → I a = I0 a) ∧ (∀ j, I (A 134) j = if j = d then I0 (A 134) s else I0 (A 134) j) ∧ (∀ j, I (A 135) j = if j = d then I0 (A 135) s else I0 (A 135) j) ∧ (∀ j, I (A 136) j = ifr (8 * d) k (fun i => I0 (A 136) (8 * s + i)) (I0 (A 136)) j) ∧ (∀ j, I (A 137) j = ifr (8 * d) k (fun i => I0 (A 137) (8 * s + i)) (I0 (A 137)) j) ∧ ∀ j, I (A 138) j = ifr (96 * d) k2 (fun i => I0 (A 138) (96 * s + i)) (I0 (A 138)) j
theorem cpS.to {A : Nat → Nat} {I0 I : Iz} {s d : Nat} {S : Sg} (h : cpS A I0 I s d 8 96) (hd : d < 14) (hs : msg I0 A s S) : msg I A d S := by
  obtain ⟨h0, h1, h2, h3, h4, h5⟩ := h
  obtain ⟨s1, s2, s3, s4⟩ := hs
  refine ⟨hd, s2, by rw [h1, if_pos rfl]; exact s3, fun i hi => ?_⟩
  obtain ⟨⟨m1, m2, m3, m4⟩, d1, d2⟩ := s4 i hi
  refine ⟨⟨by omega, m2, by rw [h3]; unfold ifr; rw [if_pos (by omega), show 8 * d + i - 8 * d = i by omega]; exact m3, fun j hj => ?_⟩, by rw [h4]; unfold ifr; rw [if_pos (by omega), show 8 * d + i - 8 * d = i by omega]; exact d1, d2⟩
  rw [h5]
  unfold ifr
  rw [if_pos (by omega)]
  dsimp only
  rw [show 96 * s + (12 * (8 * d + i) + j - 96 * d) = 12 * (8 * s + i) + j by omega]
  exact m4 j hj
theorem cpS.ot {A : Nat → Nat} {I0 I : Iz} {s d i : Nat} {S : Sg} (h : cpS A I0 I s d 8 96) (hi : i ≠ d) (hs : msg I0 A i S) : msg I A i S := by
  obtain ⟨h0, h1, h2, h3, h4, h5⟩ := h
  obtain ⟨s1, s2, s3, s4⟩ := hs
  refine ⟨s1, s2, by rw [h1, if_neg hi]; exact s3, fun k hk => ?_⟩
  obtain ⟨⟨m1, m2, m3, m4⟩, d1, d2⟩ := s4 k hk
  refine ⟨⟨m1, m2, by rw [h3]; unfold ifr; rw [if_neg (by omega)]; exact m3, fun j hj => ?_⟩, by rw [h4]; unfold ifr; rw [if_neg (by omega)]; exact d1, d2⟩
  rw [h5]
  unfold ifr
  rw [if_neg (by omega)]
  exact m4 j hj
set_option maxHeartbeats 4000000 in
set_option maxRecDepth 100000 in
theorem lp_copy2 {z : Zz} {κ : Kz} {I0 : Iz} {R : Rz} {J : Jz} {A : Nat → Nat} (hm : LM κ R A) (hz : Am z cX8_copy RX8 4 0) {s d : Nat} (hs : s < 14) (hd : d < 14) (hsd : s ≠ d) (hr : Rt z yX8_copy none 0 0 (Sv κ R J (fun I1 => cpS A I0 I1 s d 8 96))) :
    ∀ (m k : Nat) (I : Iz), k ≤ 96 → 97 ≤ k + m → cpS A I0 I s d 8 k → V z 4 0 0 84 [(0, .ref (A 130)), (1, .int (nI s)), (2, .int (nI d)), (3, .int (nI k))] [] κ I R J := by
  have hk := hm.k
  have ho := hm.o
  have hR4 := hm.r4
  have hK4 := hm.k4
  have hN4 := hm.n4
  have hO4 := hm.o4
  have hR5 := hm.r5
  have hK5 := hm.k5
  have hN5 := hm.n5
  have hO5 := hm.o5
  have hR6 := hm.r6
  have hK6 := hm.k6
  have hN6 := hm.n6
  have hO6 := hm.o6
  have hR7 := hm.r7
  have hK7 := hm.k7
  have hN7 := hm.n7
  have hO7 := hm.o7
  have hR8 := hm.r8
  have hK8 := hm.k8
  have hN8 := hm.n8
  have hO8 := hm.o8
  have e4_5 : A 134 ≠ A 135 := hm.ne 4 5 (by decide) (by decide) (by decide)
  have e4_6 : A 134 ≠ A 136 := hm.ne 4 6 (by decide) (by decide) (by decide)
  have e4_7 : A 134 ≠ A 137 := hm.ne 4 7 (by decide) (by decide) (by decide)
  have e4_8 : A 134 ≠ A 138 := hm.ne 4 8 (by decide) (by decide) (by decide)
  have e5_4 : A 135 ≠ A 134 := hm.ne 5 4 (by decide) (by decide) (by decide)
  have e5_6 : A 135 ≠ A 136 := hm.ne 5 6 (by decide) (by decide) (by decide)
  have e5_7 : A 135 ≠ A 137 := hm.ne 5 7 (by decide) (by decide) (by decide)
  have e5_8 : A 135 ≠ A 138 := hm.ne 5 8 (by decide) (by decide) (by decide)
  have e6_4 : A 136 ≠ A 134 := hm.ne 6 4 (by decide) (by decide) (by decide)
  have e6_5 : A 136 ≠ A 135 := hm.ne 6 5 (by decide) (by decide) (by decide)
  have e6_7 : A 136 ≠ A 137 := hm.ne 6 7 (by decide) (by decide) (by decide)
  have e6_8 : A 136 ≠ A 138 := hm.ne 6 8 (by decide) (by decide) (by decide)
  have e7_4 : A 137 ≠ A 134 := hm.ne 7 4 (by decide) (by decide) (by decide)
  have e7_5 : A 137 ≠ A 135 := hm.ne 7 5 (by decide) (by decide) (by decide)
  have e7_6 : A 137 ≠ A 136 := hm.ne 7 6 (by decide) (by decide) (by decide)
  have e7_8 : A 137 ≠ A 138 := hm.ne 7 8 (by decide) (by decide) (by decide)
  have e8_4 : A 138 ≠ A 134 := hm.ne 8 4 (by decide) (by decide) (by decide)
  have e8_5 : A 138 ≠ A 135 := hm.ne 8 5 (by decide) (by decide) (by decide)
  have e8_6 : A 138 ≠ A 136 := hm.ne 8 6 (by decide) (by decide) (by decide)
  have e8_7 : A 138 ≠ A 137 := hm.ne 8 7 (by decide) (by decide) (by decide)
  intro m
  induction m with
  | zero => intro k I hk9 hm9; exact absurd hm9 (by omega)
  | succ m ih =>
  intro k I hk9 hm9 hc
  obtain ⟨h0, h1, h2, h3, h4, h5⟩ := id hc
  refine v_iload_n hz dX8_copy_84 rfl ?_
  refine v_bi (v := nI 96) hz dX8_copy_85 (by decide) ?_
  first | with_reducible refine v_icmp_geN hz 118 (by omega) (by omega) dX8_copy_87 (by decide) (fun c87 => ?_) (fun c87 => ?_) | refine v_icmp_ge hz 118 dX8_copy_87 (by decide) (fun c87 => ?_) (fun c87 => ?_)
  · exact v_vret hz hr dX8_copy_118 (by rw [show k = 96 by omega] at hc; exact hc)
  · refine v_aload_n hz dX8_copy_90 rfl ?_
    refine v_getR hz fX8_25 (by assumption) (by assumption) dX8_copy_91 ?_
    refine v_bi (v := nI 96) hz dX8_copy_94 (by decide) ?_
    refine v_iload_n hz dX8_copy_96 rfl ?_
    first | with_reducible refine v_imulN hz dX8_copy_97 ?_ | refine v_imul hz dX8_copy_97 ?_
    refine v_iload_n hz dX8_copy_98 rfl ?_
    first | with_reducible refine v_iaddN hz dX8_copy_99 ?_ | refine v_iadd hz dX8_copy_99 ?_
    refine v_aload_n hz dX8_copy_100 rfl ?_
    refine v_getR hz fX8_25 (by assumption) (by assumption) dX8_copy_101 ?_
    refine v_bi (v := nI 96) hz dX8_copy_104 (by decide) ?_
    refine v_iload_n hz dX8_copy_106 rfl ?_
    first | with_reducible refine v_imulN hz dX8_copy_107 ?_ | refine v_imul hz dX8_copy_107 ?_
    refine v_iload_n hz dX8_copy_108 rfl ?_
    first | with_reducible refine v_iaddN hz dX8_copy_109 ?_ | refine v_iadd hz dX8_copy_109 ?_
    refine v_ialdN hz (by assumption) (by assumption) (by omega) (by decide) dX8_copy_110 ?_
    refine v_top (y := I0 (A 138) (96 * s + k)) (by rw [h5]; unfold ifr; rw [if_neg (by omega)]) ?_
    refine v_iastN hz (by assumption) (by assumption) (by omega) (by decide) dX8_copy_111 ?_
    first | refine v_iincN hz 1 dX8_copy_112 (by decide) rfl (by decide) rfl ?_ | refine v_iinc hz dX8_copy_112 rfl (by decide) rfl ?_
    refine v_goto hz 84 dX8_copy_115 (by decide) ?_
    exact v_sub (ih (k + 1) _ (by omega) (by omega) ⟨fun a a1 a2 a3 a4 a5 => by rw [u2_ne a5]; exact h0 a a1 a2 a3 a4 a5, fun j => by rw [u2_ne e4_8]; exact h1 j, fun j => by rw [u2_ne e5_8]; exact h2 j, fun j => by rw [u2_ne e6_8]; exact h3 j, fun j => by rw [u2_ne e7_8]; exact h4 j, fun j => by rw [u2_row]; exact ifr_s h5 rfl⟩) ⟨rfl, rfl, rfl, rfl, trivial⟩
set_option maxHeartbeats 4000000 in
set_option maxRecDepth 100000 in
theorem lp_copy1 {z : Zz} {κ : Kz} {I0 : Iz} {R : Rz} {J : Jz} {A : Nat → Nat} (hm : LM κ R A) (hz : Am z cX8_copy RX8 4 0) {s d : Nat} (hs : s < 14) (hd : d < 14) (hsd : s ≠ d) (hr : Rt z yX8_copy none 0 0 (Sv κ R J (fun I1 => cpS A I0 I1 s d 8 96))) :
    ∀ (m k : Nat) (I : Iz), k ≤ 8 → 9 ≤ k + m → cpS A I0 I s d k 0 → V z 4 0 0 26 [(0, .ref (A 130)), (1, .int (nI s)), (2, .int (nI d)), (3, .int (nI k))] [] κ I R J := by
  have hk := hm.k
  have ho := hm.o
  have hR4 := hm.r4
  have hK4 := hm.k4
  have hN4 := hm.n4
  have hO4 := hm.o4
  have hR5 := hm.r5
  have hK5 := hm.k5
  have hN5 := hm.n5
  have hO5 := hm.o5
  have hR6 := hm.r6
  have hK6 := hm.k6
  have hN6 := hm.n6
  have hO6 := hm.o6
  have hR7 := hm.r7
  have hK7 := hm.k7
  have hN7 := hm.n7
  have hO7 := hm.o7
  have hR8 := hm.r8
  have hK8 := hm.k8
  have hN8 := hm.n8
  have hO8 := hm.o8
  have e4_5 : A 134 ≠ A 135 := hm.ne 4 5 (by decide) (by decide) (by decide)
  have e4_6 : A 134 ≠ A 136 := hm.ne 4 6 (by decide) (by decide) (by decide)
  have e4_7 : A 134 ≠ A 137 := hm.ne 4 7 (by decide) (by decide) (by decide)
  have e4_8 : A 134 ≠ A 138 := hm.ne 4 8 (by decide) (by decide) (by decide)
  have e5_4 : A 135 ≠ A 134 := hm.ne 5 4 (by decide) (by decide) (by decide)
  have e5_6 : A 135 ≠ A 136 := hm.ne 5 6 (by decide) (by decide) (by decide)
  have e5_7 : A 135 ≠ A 137 := hm.ne 5 7 (by decide) (by decide) (by decide)
  have e5_8 : A 135 ≠ A 138 := hm.ne 5 8 (by decide) (by decide) (by decide)
  have e6_4 : A 136 ≠ A 134 := hm.ne 6 4 (by decide) (by decide) (by decide)
  have e6_5 : A 136 ≠ A 135 := hm.ne 6 5 (by decide) (by decide) (by decide)
  have e6_7 : A 136 ≠ A 137 := hm.ne 6 7 (by decide) (by decide) (by decide)
  have e6_8 : A 136 ≠ A 138 := hm.ne 6 8 (by decide) (by decide) (by decide)
  have e7_4 : A 137 ≠ A 134 := hm.ne 7 4 (by decide) (by decide) (by decide)
  have e7_5 : A 137 ≠ A 135 := hm.ne 7 5 (by decide) (by decide) (by decide)
  have e7_6 : A 137 ≠ A 136 := hm.ne 7 6 (by decide) (by decide) (by decide)
  have e7_8 : A 137 ≠ A 138 := hm.ne 7 8 (by decide) (by decide) (by decide)
  have e8_4 : A 138 ≠ A 134 := hm.ne 8 4 (by decide) (by decide) (by decide)
  have e8_5 : A 138 ≠ A 135 := hm.ne 8 5 (by decide) (by decide) (by decide)
  have e8_6 : A 138 ≠ A 136 := hm.ne 8 6 (by decide) (by decide) (by decide)
  have e8_7 : A 138 ≠ A 137 := hm.ne 8 7 (by decide) (by decide) (by decide)
  intro m
  induction m with
  | zero => intro k I hk9 hm9; exact absurd hm9 (by omega)
  | succ m ih =>
  intro k I hk9 hm9 hc
  obtain ⟨h0, h1, h2, h3, h4, h5⟩ := id hc
  refine v_iload_n hz dX8_copy_26 rfl ?_
  refine v_bi (v := nI 8) hz dX8_copy_27 (by decide) ?_
  first | with_reducible refine v_icmp_geN hz 82 (by omega) (by omega) dX8_copy_29 (by decide) (fun c29 => ?_) (fun c29 => ?_) | refine v_icmp_ge hz 82 dX8_copy_29 (by decide) (fun c29 => ?_) (fun c29 => ?_)
  · refine v_ic (v := nI 0) hz dX8_copy_82 (by decide) ?_
    refine v_istore_n hz dX8_copy_83 (by decide) rfl ?_
    exact v_sub (lp_copy2 hm hz hs hd hsd hr 97 0 I (by omega) (by omega) (by rw [show k = 8 by omega] at hc; exact hc)) ⟨rfl, rfl, rfl, rfl, trivial⟩
  · refine v_aload_n hz dX8_copy_32 rfl ?_
    refine v_getR hz fX8_19 (by assumption) (by assumption) dX8_copy_33 ?_
    refine v_bi (v := nI 8) hz dX8_copy_36 (by decide) ?_
    refine v_iload_n hz dX8_copy_38 rfl ?_
    first | with_reducible refine v_imulN hz dX8_copy_39 ?_ | refine v_imul hz dX8_copy_39 ?_
    refine v_iload_n hz dX8_copy_40 rfl ?_
    first | with_reducible refine v_iaddN hz dX8_copy_41 ?_ | refine v_iadd hz dX8_copy_41 ?_
    refine v_aload_n hz dX8_copy_42 rfl ?_
    refine v_getR hz fX8_19 (by assumption) (by assumption) dX8_copy_43 ?_
    refine v_bi (v := nI 8) hz dX8_copy_46 (by decide) ?_
    refine v_iload_n hz dX8_copy_48 rfl ?_
    first | with_reducible refine v_imulN hz dX8_copy_49 ?_ | refine v_imul hz dX8_copy_49 ?_
    refine v_iload_n hz dX8_copy_50 rfl ?_
    first | with_reducible refine v_iaddN hz dX8_copy_51 ?_ | refine v_iadd hz dX8_copy_51 ?_
    refine v_ialdN hz (by assumption) (by assumption) (by omega) (by decide) dX8_copy_52 ?_
    refine v_top (y := I0 (A 136) (8 * s + k)) (by rw [h3]; unfold ifr; rw [if_neg (by omega)]) ?_
    refine v_iastN hz (by assumption) (by assumption) (by omega) (by decide) dX8_copy_53 ?_
    refine v_aload_n hz dX8_copy_54 rfl ?_
    refine v_getR hz fX8_22 (by assumption) (by assumption) dX8_copy_55 ?_
    refine v_bi (v := nI 8) hz dX8_copy_58 (by decide) ?_
    refine v_iload_n hz dX8_copy_60 rfl ?_
    first | with_reducible refine v_imulN hz dX8_copy_61 ?_ | refine v_imul hz dX8_copy_61 ?_
    refine v_iload_n hz dX8_copy_62 rfl ?_
    first | with_reducible refine v_iaddN hz dX8_copy_63 ?_ | refine v_iadd hz dX8_copy_63 ?_
    refine v_aload_n hz dX8_copy_64 rfl ?_
    refine v_getR hz fX8_22 (by assumption) (by assumption) dX8_copy_65 ?_
    refine v_bi (v := nI 8) hz dX8_copy_68 (by decide) ?_
    refine v_iload_n hz dX8_copy_70 rfl ?_
    first | with_reducible refine v_imulN hz dX8_copy_71 ?_ | refine v_imul hz dX8_copy_71 ?_
    refine v_iload_n hz dX8_copy_72 rfl ?_
    first | with_reducible refine v_iaddN hz dX8_copy_73 ?_ | refine v_iadd hz dX8_copy_73 ?_
    refine v_ialdN hz (by assumption) (by assumption) (by omega) (by decide) dX8_copy_74 ?_
    refine v_top (y := I0 (A 137) (8 * s + k)) (by rw [u2_ne e7_6, h4]; unfold ifr; rw [if_neg (by omega)]) ?_
    refine v_iastN hz (by assumption) (by assumption) (by omega) (by decide) dX8_copy_75 ?_
    first | refine v_iincN hz 1 dX8_copy_76 (by decide) rfl (by decide) rfl ?_ | refine v_iinc hz dX8_copy_76 rfl (by decide) rfl ?_
    refine v_goto hz 26 dX8_copy_79 (by decide) ?_
    exact v_sub (ih (k + 1) _ (by omega) (by omega) ⟨fun a a1 a2 a3 a4 a5 => by rw [u2_ne a4, u2_ne a3]; exact h0 a a1 a2 a3 a4 a5, fun j => by rw [u2_ne e4_7, u2_ne e4_6]; exact h1 j, fun j => by rw [u2_ne e5_7, u2_ne e5_6]; exact h2 j, fun j => by rw [u2_ne e6_7, u2_row]; exact ifr_s h3 rfl, fun j => by rw [u2_row, u2_ne e7_6]; exact ifr_s h4 rfl, fun j => by rw [u2_ne e8_7, u2_ne e8_6]; exact h5 j⟩) ⟨rfl, rfl, rfl, rfl, trivial⟩
set_option maxHeartbeats 4000000 in
set_option maxRecDepth 100000 in
theorem cX8_copy_ok (l : Launch) (g : Gz) (κ : Kz) (I : Iz) (R : Rz) (J : Jz) (A : Nat → Nat) (hm : LM κ R A) (s d : Nat) (hs : s < 14) (hd : d < 14) (hsd : s ≠ d) : Ct l mX8_copy 0 0 g [.ref (A 130), .int (nI s), .int (nI d)] κ I R J (Sv κ R J (fun I1 => cpS A I I1 s d 8 96)) := by
  refine ct_of (by decide) (Nat.le_of_ble_eq_true rfl) ?_
  intro z hz hr hrc hrs
  have hz : Am z cX8_copy RX8 4 0 := hz
  have hr : Rt z yX8_copy none 0 0 _ := hr
  show V z 4 0 0 0 [(0, .ref (A 130)), (1, .int (nI s)), (2, .int (nI d))] [] κ I R J
  have hk := hm.k
  have ho := hm.o
  have hR4 := hm.r4
  have hK4 := hm.k4
  have hN4 := hm.n4
  have hO4 := hm.o4
  have hR5 := hm.r5
  have hK5 := hm.k5
  have hN5 := hm.n5
  have hO5 := hm.o5
  have hR6 := hm.r6
  have hK6 := hm.k6
  have hN6 := hm.n6
  have hO6 := hm.o6
  have hR7 := hm.r7
  have hK7 := hm.k7
  have hN7 := hm.n7
  have hO7 := hm.o7
  have hR8 := hm.r8
  have hK8 := hm.k8
  have hN8 := hm.n8
  have hO8 := hm.o8
  have e4_5 : A 134 ≠ A 135 := hm.ne 4 5 (by decide) (by decide) (by decide)
  have e4_6 : A 134 ≠ A 136 := hm.ne 4 6 (by decide) (by decide) (by decide)
  have e4_7 : A 134 ≠ A 137 := hm.ne 4 7 (by decide) (by decide) (by decide)
  have e4_8 : A 134 ≠ A 138 := hm.ne 4 8 (by decide) (by decide) (by decide)
  have e5_4 : A 135 ≠ A 134 := hm.ne 5 4 (by decide) (by decide) (by decide)
  have e5_6 : A 135 ≠ A 136 := hm.ne 5 6 (by decide) (by decide) (by decide)
  have e5_7 : A 135 ≠ A 137 := hm.ne 5 7 (by decide) (by decide) (by decide)
  have e5_8 : A 135 ≠ A 138 := hm.ne 5 8 (by decide) (by decide) (by decide)
  have e6_4 : A 136 ≠ A 134 := hm.ne 6 4 (by decide) (by decide) (by decide)
  have e6_5 : A 136 ≠ A 135 := hm.ne 6 5 (by decide) (by decide) (by decide)
  have e6_7 : A 136 ≠ A 137 := hm.ne 6 7 (by decide) (by decide) (by decide)
  have e6_8 : A 136 ≠ A 138 := hm.ne 6 8 (by decide) (by decide) (by decide)
  have e7_4 : A 137 ≠ A 134 := hm.ne 7 4 (by decide) (by decide) (by decide)
  have e7_5 : A 137 ≠ A 135 := hm.ne 7 5 (by decide) (by decide) (by decide)
  have e7_6 : A 137 ≠ A 136 := hm.ne 7 6 (by decide) (by decide) (by decide)
  have e7_8 : A 137 ≠ A 138 := hm.ne 7 8 (by decide) (by decide) (by decide)
  have e8_4 : A 138 ≠ A 134 := hm.ne 8 4 (by decide) (by decide) (by decide)
  have e8_5 : A 138 ≠ A 135 := hm.ne 8 5 (by decide) (by decide) (by decide)
  have e8_6 : A 138 ≠ A 136 := hm.ne 8 6 (by decide) (by decide) (by decide)
  have e8_7 : A 138 ≠ A 137 := hm.ne 8 7 (by decide) (by decide) (by decide)
  refine v_aload_n hz dX8_copy_0 rfl ?_
  refine v_getR hz fX8_13 (by assumption) (by assumption) dX8_copy_1 ?_
  refine v_iload_n hz dX8_copy_4 rfl ?_
  refine v_aload_n hz dX8_copy_5 rfl ?_
  refine v_getR hz fX8_13 (by assumption) (by assumption) dX8_copy_6 ?_
  refine v_iload_n hz dX8_copy_9 rfl ?_
  refine v_ialdN hz (by assumption) (by assumption) (by omega) (by decide) dX8_copy_10 ?_
  refine v_iastN hz (by assumption) (by assumption) (by omega) (by decide) dX8_copy_11 ?_
  refine v_aload_n hz dX8_copy_12 rfl ?_
  refine v_getR hz fX8_16 (by assumption) (by assumption) dX8_copy_13 ?_
  refine v_iload_n hz dX8_copy_16 rfl ?_
  refine v_aload_n hz dX8_copy_17 rfl ?_
  refine v_getR hz fX8_16 (by assumption) (by assumption) dX8_copy_18 ?_
  refine v_iload_n hz dX8_copy_21 rfl ?_
  refine v_ialdN hz (by assumption) (by assumption) (by omega) (by decide) dX8_copy_22 ?_
  refine v_iastN hz (by assumption) (by assumption) (by omega) (by decide) dX8_copy_23 ?_
  refine v_ic (v := nI 0) hz dX8_copy_24 (by decide) ?_
  refine v_istore_n hz dX8_copy_25 (by decide) rfl ?_
  exact v_sub (lp_copy1 hm hz hs hd hsd hr 9 0 _ (by omega) (by omega) ⟨fun a a1 a2 a3 a4 a5 => by rw [u2_ne a2, u2_ne a1], fun j => by rw [u2_ne e4_5, u2_row], fun j => by rw [u2_row, u2_ne e5_4], fun j => by rw [u2_ne e6_5, u2_ne e6_4]; unfold ifr; rw [if_neg (by omega)], fun j => by rw [u2_ne e7_5, u2_ne e7_4]; unfold ifr; rw [if_neg (by omega)], fun j => by rw [u2_ne e8_5, u2_ne e8_4]; unfold ifr; rw [if_neg (by omega)]⟩) ⟨rfl, rfl, rfl, rfl, trivial⟩
set_option maxHeartbeats 4000000 in
set_option maxRecDepth 100000 in
theorem lp_isSameSign {z : Zz} {κ : Kz} {I : Iz} {R : Rz} {J : Jz} {A : Nat → Nat} (hm : LM κ R A) (hz : Am z cX8_isSameSign RX8 5 0) {q1 q2 L1 L2 D1 D2 : Nat} {T1 T2 : Nat → Nat} (h1 : msn I A q1 L1 T1) (h2 : msn I A q2 L2 T2) (d1 : dgt I A q1 D1) (d2 : dgt I A q2 D2) (hr : Rt z yX8_isSameSign (some .boolean) 0 0 (Si κ R J (fun r I1 => r = bz (L1 = L2 ∧ (0 < L1 ∨ D1 = D2) ∧ ∀ j, j < L1 → T1 j = T2 j) ∧ I1 = I))) :
    ∀ (m k : Nat), k ≤ L1 → L1 + 1 ≤ k + m → V z 5 0 0 48 [(0, .ref (A 130)), (1, .int (nI q1)), (2, .int (nI q2)), (3, .int (bz (L1 = L2 ∧ (0 < L1 ∨ D1 = D2) ∧ ∀ j, j < k → T1 j = T2 j))), (4, .int (nI k))] [] κ I R J := by
  have hk := hm.k
  have ho := hm.o
  have hR6 := hm.r6
  have hK6 := hm.k6
  have hN6 := hm.n6
  have hO6 := hm.o6
  have hR7 := hm.r7
  have hK7 := hm.k7
  have hN7 := hm.n7
  have hO7 := hm.o7
  have hR8 := hm.r8
  have hK8 := hm.k8
  have hN8 := hm.n8
  have hO8 := hm.o8
  obtain ⟨x1, x2, x3, x4⟩ := id h1
  obtain ⟨y1, y2, y3, y4⟩ := id h2
  obtain ⟨w1, w2⟩ := id d1
  obtain ⟨v1, v2⟩ := id d2
  intro m
  induction m with
  | zero => intro k hk9 hm9; exact absurd hm9 (by omega)
  | succ m ih =>
  intro k hk9 hm9
  refine v_iload hz dX8_isSameSign_48 rfl ?_
  refine v_aload_n hz dX8_isSameSign_50 rfl ?_
  refine v_getR hz fX8_19 (by assumption) (by assumption) dX8_isSameSign_51 ?_
  refine v_iload_n hz dX8_isSameSign_54 rfl ?_
  refine v_ialdN hz (by assumption) (by assumption) (by omega) (by decide) dX8_isSameSign_55 ?_
  refine v_top x3 ?_
  first | with_reducible refine v_icmp_geN hz 102 (by omega) (by omega) dX8_isSameSign_56 (by decide) (fun c56 => ?_) (fun c56 => ?_) | refine v_icmp_ge hz 102 dX8_isSameSign_56 (by decide) (fun c56 => ?_) (fun c56 => ?_)
  · exact v_iload_n hz dX8_isSameSign_102 rfl (v_zret hz hr dX8_isSameSign_103 bz_01 ⟨by rw [show k = L1 by omega], rfl⟩)
  · refine v_iload_n hz dX8_isSameSign_59 rfl ?_
    first | with_reducible refine v_if_eqB hz 102 dX8_isSameSign_60 (by decide) (fun c60 => ?_) (fun c60 => ?_) | with_reducible refine v_if_eqN hz 102 (by omega) dX8_isSameSign_60 (by decide) (fun c60 => ?_) (fun c60 => ?_) | refine v_if_eq hz 102 dX8_isSameSign_60 (by decide) (fun c60 => ?_) (fun c60 => ?_)
    · exact v_iload_n hz dX8_isSameSign_102 rfl (v_zret hz hr dX8_isSameSign_103 bz_01 ⟨by rw [bz_f c60, bz_f (fun q => c60 ⟨q.1, q.2.1, fun j hj => q.2.2 j (by omega)⟩)], rfl⟩)
    · refine v_aload_n hz dX8_isSameSign_63 rfl ?_
      refine v_getR hz fX8_25 (by assumption) (by assumption) dX8_isSameSign_64 ?_
      refine v_bi (v := nI 12) hz dX8_isSameSign_67 (by decide) ?_
      refine v_iload_n hz dX8_isSameSign_69 rfl ?_
      first | with_reducible refine v_imulN hz dX8_isSameSign_70 ?_ | refine v_imul hz dX8_isSameSign_70 ?_
      refine v_iload hz dX8_isSameSign_71 rfl ?_
      first | with_reducible refine v_iaddN hz dX8_isSameSign_73 ?_ | refine v_iadd hz dX8_isSameSign_73 ?_
      refine v_ialdN hz (by assumption) (by assumption) (by omega) (by decide) dX8_isSameSign_74 ?_
      refine v_top (x4 k (by omega)).1 ?_
      have b1 := (x4 k (by omega)).2
      refine v_aload_n hz dX8_isSameSign_75 rfl ?_
      refine v_getR hz fX8_25 (by assumption) (by assumption) dX8_isSameSign_76 ?_
      refine v_bi (v := nI 12) hz dX8_isSameSign_79 (by decide) ?_
      refine v_iload_n hz dX8_isSameSign_81 rfl ?_
      first | with_reducible refine v_imulN hz dX8_isSameSign_82 ?_ | refine v_imul hz dX8_isSameSign_82 ?_
      refine v_iload hz dX8_isSameSign_83 rfl ?_
      first | with_reducible refine v_iaddN hz dX8_isSameSign_85 ?_ | refine v_iadd hz dX8_isSameSign_85 ?_
      refine v_ialdN hz (by assumption) (by assumption) (by omega) (by decide) dX8_isSameSign_86 ?_
      refine v_top (y4 k (by omega)).1 ?_
      have b2 := (y4 k (by omega)).2
      refine v_join2 95 (bz (L1 = L2 ∧ (0 < L1 ∨ D1 = D2) ∧ ∀ j, j < (k + 1) → T1 j = T2 j)) (fun hj => ?_) ?_
      · first | with_reducible refine v_icmp_neN hz 94 (by omega) (by omega) dX8_isSameSign_87 (by decide) (fun c87 => ?_) (fun c87 => ?_) | refine v_icmp_ne hz 94 dX8_isSameSign_87 (by decide) (fun c87 => ?_) (fun c87 => ?_)
        · refine v_ic (v := nI 0) hz dX8_isSameSign_94 (by decide) ?_
          exact v_top (by first | exact (bz_f (fun q => absurd (q.2.2 k (by omega)) c87)).symm | exact (bz_t ⟨c60.1, c60.2.1, fun j hj => by by_cases e : j = k; rw [e]; omega; exact c60.2.2 j (by omega)⟩).symm) hj
        · refine v_ic (v := nI 1) hz dX8_isSameSign_90 (by decide) ?_
          refine v_goto hz 95 dX8_isSameSign_91 (by decide) ?_
          exact v_top (by first | exact (bz_f (fun q => absurd (q.2.2 k (by omega)) c87)).symm | exact (bz_t ⟨c60.1, c60.2.1, fun j hj => by by_cases e : j = k; rw [e]; omega; exact c60.2.2 j (by omega)⟩).symm) hj
      refine v_istore_n hz dX8_isSameSign_95 (by decide) rfl ?_
      first | refine v_iincN hz 1 dX8_isSameSign_96 (by decide) rfl (by decide) rfl ?_ | refine v_iinc hz dX8_isSameSign_96 rfl (by decide) rfl ?_
      refine v_goto hz 48 dX8_isSameSign_99 (by decide) ?_
      exact v_sub (ih (k + 1) (by omega) (by omega)) ⟨rfl, rfl, rfl, rfl, rfl, trivial⟩
set_option maxHeartbeats 4000000 in
set_option maxRecDepth 100000 in
theorem cX8_isSameSign_ok (l : Launch) (g : Gz) (κ : Kz) (I : Iz) (R : Rz) (J : Jz) (A : Nat → Nat) (hm : LM κ R A) (q1 q2 L1 L2 D1 D2 : Nat) (T1 T2 : Nat → Nat) (h1 : msn I A q1 L1 T1) (h2 : msn I A q2 L2 T2) (d1 : dgt I A q1 D1) (d2 : dgt I A q2 D2) : Ct l mX8_isSameSign 0 0 g [.ref (A 130), .int (nI q1), .int (nI q2)] κ I R J (Si κ R J (fun r I1 => r = bz (L1 = L2 ∧ (0 < L1 ∨ D1 = D2) ∧ ∀ j, j < L1 → T1 j = T2 j) ∧ I1 = I)) := by
  refine ct_of (by decide) (Nat.le_of_ble_eq_true rfl) ?_
  intro z hz hr hrc hrs
  have hz : Am z cX8_isSameSign RX8 5 0 := hz
  have hr : Rt z yX8_isSameSign (some .boolean) 0 0 _ := hr
  show V z 5 0 0 0 [(0, .ref (A 130)), (1, .int (nI q1)), (2, .int (nI q2))] [] κ I R J
  have hk := hm.k
  have ho := hm.o
  have hR6 := hm.r6
  have hK6 := hm.k6
  have hN6 := hm.n6
  have hO6 := hm.o6
  have hR7 := hm.r7
  have hK7 := hm.k7
  have hN7 := hm.n7
  have hO7 := hm.o7
  have hR8 := hm.r8
  have hK8 := hm.k8
  have hN8 := hm.n8
  have hO8 := hm.o8
  obtain ⟨x1, x2, x3, x4⟩ := id h1
  obtain ⟨y1, y2, y3, y4⟩ := id h2
  obtain ⟨w1, w2⟩ := id d1
  obtain ⟨v1, v2⟩ := id d2
  obtain ⟨k0, hk0⟩ : ∃ k : Nat, k = 0 := ⟨0, rfl⟩
  refine v_aload_n hz dX8_isSameSign_0 rfl ?_
  refine v_getR hz fX8_19 (by assumption) (by assumption) dX8_isSameSign_1 ?_
  refine v_iload_n hz dX8_isSameSign_4 rfl ?_
  refine v_ialdN hz (by assumption) (by assumption) (by omega) (by decide) dX8_isSameSign_5 ?_
  refine v_top x3 ?_
  refine v_aload_n hz dX8_isSameSign_6 rfl ?_
  refine v_getR hz fX8_19 (by assumption) (by assumption) dX8_isSameSign_7 ?_
  refine v_iload_n hz dX8_isSameSign_10 rfl ?_
  refine v_ialdN hz (by assumption) (by assumption) (by omega) (by decide) dX8_isSameSign_11 ?_
  refine v_top y3 ?_
  refine v_join2 44 (bz (L1 = L2 ∧ (0 < L1 ∨ D1 = D2) ∧ ∀ j, j < k0 → T1 j = T2 j)) (fun hj => ?_) ?_
  · first | with_reducible refine v_icmp_neN hz 43 (by omega) (by omega) dX8_isSameSign_12 (by decide) (fun c12 => ?_) (fun c12 => ?_) | refine v_icmp_ne hz 43 dX8_isSameSign_12 (by decide) (fun c12 => ?_) (fun c12 => ?_)
    · refine v_ic (v := nI 0) hz dX8_isSameSign_43 (by decide) ?_
      exact v_top (by first | exact (bz_t ⟨by omega, by omega, fun j hj => absurd hj (by omega)⟩).symm | exact (bz_f (fun q => by have q1 := q.1; have q2 := q.2.1; omega)).symm) hj
    · refine v_aload_n hz dX8_isSameSign_15 rfl ?_
      refine v_getR hz fX8_19 (by assumption) (by assumption) dX8_isSameSign_16 ?_
      refine v_iload_n hz dX8_isSameSign_19 rfl ?_
      refine v_ialdN hz (by assumption) (by assumption) (by omega) (by decide) dX8_isSameSign_20 ?_
      refine v_top x3 ?_
      first | with_reducible refine v_if_gtN hz 39 (by omega) dX8_isSameSign_21 (by decide) (fun c21 => ?_) (fun c21 => ?_) | refine v_if_gt hz 39 dX8_isSameSign_21 (by decide) (fun c21 => ?_) (fun c21 => ?_)
      · refine v_ic (v := nI 1) hz dX8_isSameSign_39 (by decide) ?_
        refine v_goto hz 44 dX8_isSameSign_40 (by decide) ?_
        exact v_top (by first | exact (bz_t ⟨by omega, by omega, fun j hj => absurd hj (by omega)⟩).symm | exact (bz_f (fun q => by have q1 := q.1; have q2 := q.2.1; omega)).symm) hj
      · refine v_aload_n hz dX8_isSameSign_24 rfl ?_
        refine v_getR hz fX8_22 (by assumption) (by assumption) dX8_isSameSign_25 ?_
        refine v_iload_n hz dX8_isSameSign_28 rfl ?_
        refine v_ialdN hz (by assumption) (by assumption) (by omega) (by decide) dX8_isSameSign_29 ?_
        refine v_top w1 ?_
        refine v_aload_n hz dX8_isSameSign_30 rfl ?_
        refine v_getR hz fX8_22 (by assumption) (by assumption) dX8_isSameSign_31 ?_
        refine v_iload_n hz dX8_isSameSign_34 rfl ?_
        refine v_ialdN hz (by assumption) (by assumption) (by omega) (by decide) dX8_isSameSign_35 ?_
        refine v_top v1 ?_
        first | with_reducible refine v_icmp_neN hz 43 (by omega) (by omega) dX8_isSameSign_36 (by decide) (fun c36 => ?_) (fun c36 => ?_) | refine v_icmp_ne hz 43 dX8_isSameSign_36 (by decide) (fun c36 => ?_) (fun c36 => ?_)
        · refine v_ic (v := nI 0) hz dX8_isSameSign_43 (by decide) ?_
          exact v_top (by first | exact (bz_t ⟨by omega, by omega, fun j hj => absurd hj (by omega)⟩).symm | exact (bz_f (fun q => by have q1 := q.1; have q2 := q.2.1; omega)).symm) hj
        · refine v_ic (v := nI 1) hz dX8_isSameSign_39 (by decide) ?_
          refine v_goto hz 44 dX8_isSameSign_40 (by decide) ?_
          exact v_top (by first | exact (bz_t ⟨by omega, by omega, fun j hj => absurd hj (by omega)⟩).symm | exact (bz_f (fun q => by have q1 := q.1; have q2 := q.2.1; omega)).symm) hj
  refine v_istore_n hz dX8_isSameSign_44 (by decide) rfl ?_
  refine v_ic (v := nI 0) hz dX8_isSameSign_45 (by decide) ?_
  refine v_istore hz dX8_isSameSign_46 (by decide) rfl ?_
  subst hk0
  exact v_sub (lp_isSameSign hm hz h1 h2 d1 d2 hr (L1 + 1) 0 (by omega) (by omega)) ⟨rfl, rfl, rfl, rfl, rfl, trivial⟩
theorem bz_c {p q : Prop} [Decidable p] [Decidable q] (h : p ↔ q) : bz p = bz q := by
  by_cases e : p
  · rw [bz_t e, bz_t (h.mp e)]
  · rw [bz_f e, bz_f (fun r => e (h.mpr r))]
/-- a segment as it is kept -/
def okQ (S : Sg) : Prop := okS S ∧ grn S ≤ 49 ∧ ∀ i, i < S.1 → okI (S.2.1 i) (S.2.2.1 i) (S.2.2.2 i)
def sgs (S T : Sg) (k : Nat) : Prop := S.1 = T.1 ∧ ∀ i, i < k → (S.2.1 i = T.2.1 i ∧ S.2.2.1 i = T.2.2.1 i ∧ ∀ j, j < S.2.1 i → S.2.2.2 i j = T.2.2.2 i j)
theorem sgs_s {S T : Sg} {k : Nat} (hS : okQ S) (hT : okQ T) (hk : k < S.1) (h : sgs S T k) : (S.2.1 k = T.2.1 k ∧ (0 < S.2.1 k ∨ S.2.2.1 k = T.2.2.1 k) ∧ ∀ j, j < S.2.1 k → S.2.2.2 k j = T.2.2.2 k j) ↔ (S.1 = T.1 ∧ ∀ i, i < k + 1 → (S.2.1 i = T.2.1 i ∧ S.2.2.1 i = T.2.2.1 i ∧ ∀ j, j < S.2.1 i → S.2.2.2 i j = T.2.2.2 i j)) := by
  have e := h.1
  have a := (hS.2.2 k hk).2.2.2.1
  have b := (hT.2.2 k (by omega)).2.2.2.1
  constructor
  · intro q
    refine ⟨h.1, fun i hi => ?_⟩
    by_cases e2 : i = k
    · subst e2
      refine ⟨q.1, ?_, q.2.2⟩
      rcases q.2.1 with x | x
      · have := a x
        have := b (by omega)
        omega
      · exact x
    · exact h.2 i (by omega)
  · intro q
    have := q.2 k (by omega)
    exact ⟨this.1, Or.inr this.2.1, this.2.2⟩
set_option maxHeartbeats 4000000 in
set_option maxRecDepth 100000 in
theorem lp_areSame {z : Zz} {κ : Kz} {I : Iz} {R : Rz} {J : Jz} {A : Nat → Nat} (hm : LM κ R A) (hz : Am z cX8_areSame RX8 5 1) {s1 s2 : Nat} {S T : Sg} (h1 : msg I A s1 S) (h2 : msg I A s2 T) (o1 : okQ S) (o2 : okQ T) (hr : Rt z yX8_areSame (some .boolean) 0 0 (Si κ R J (fun r I1 => r = sameI S T ∧ I1 = I))) :
    ∀ (m k : Nat), k ≤ S.1 → S.1 + 1 ≤ k + m → V z 5 0 0 24 [(0, .ref (A 130)), (1, .int (nI s1)), (2, .int (nI s2)), (3, .int (bz (S.1 = T.1 ∧ ∀ i, i < k → (S.2.1 i = T.2.1 i ∧ S.2.2.1 i = T.2.2.1 i ∧ ∀ j, j < S.2.1 i → S.2.2.2 i j = T.2.2.2 i j)))), (4, .int (nI k))] [] κ I R J := by
  have hk := hm.k
  have ho := hm.o
  have hR4 := hm.r4
  have hK4 := hm.k4
  have hN4 := hm.n4
  have hO4 := hm.o4
  obtain ⟨x1, x2, x3, x4⟩ := id h1
  obtain ⟨y1, y2, y3, y4⟩ := id h2
  intro m
  induction m with
  | zero => intro k hk9 hm9; exact absurd hm9 (by omega)
  | succ m ih =>
  intro k hk9 hm9
  refine v_iload hz dX8_areSame_24 rfl ?_
  refine v_aload_n hz dX8_areSame_26 rfl ?_
  refine v_getR hz fX8_13 (by assumption) (by assumption) dX8_areSame_27 ?_
  refine v_iload_n hz dX8_areSame_30 rfl ?_
  refine v_ialdN hz (by assumption) (by assumption) (by omega) (by decide) dX8_areSame_31 ?_
  refine v_top x3 ?_
  first | with_reducible refine v_icmp_geN hz 64 (by omega) (by omega) dX8_areSame_32 (by decide) (fun c32 => ?_) (fun c32 => ?_) | refine v_icmp_ge hz 64 dX8_areSame_32 (by decide) (fun c32 => ?_) (fun c32 => ?_)
  · exact v_iload_n hz dX8_areSame_64 rfl (v_zret hz hr dX8_areSame_65 bz_01 ⟨by rw [show k = S.1 by omega]; rfl, rfl⟩)
  · refine v_iload_n hz dX8_areSame_35 rfl ?_
    first | with_reducible refine v_if_eqB hz 64 dX8_areSame_36 (by decide) (fun c36 => ?_) (fun c36 => ?_) | with_reducible refine v_if_eqN hz 64 (by omega) dX8_areSame_36 (by decide) (fun c36 => ?_) (fun c36 => ?_) | refine v_if_eq hz 64 dX8_areSame_36 (by decide) (fun c36 => ?_) (fun c36 => ?_)
    · exact v_iload_n hz dX8_areSame_64 rfl (v_zret hz hr dX8_areSame_65 bz_01 ⟨by rw [bz_f c36]; unfold sameI; rw [bz_f (fun q => c36 ⟨q.1, fun i hi => q.2 i (by omega)⟩)], rfl⟩)
    · have st := c36.1
      refine v_aload_n hz dX8_areSame_39 rfl ?_
      refine v_bi (v := nI 8) hz dX8_areSame_40 (by decide) ?_
      refine v_iload_n hz dX8_areSame_42 rfl ?_
      first | with_reducible refine v_imulN hz dX8_areSame_43 ?_ | refine v_imul hz dX8_areSame_43 ?_
      refine v_iload hz dX8_areSame_44 rfl ?_
      first | with_reducible refine v_iaddN hz dX8_areSame_46 ?_ | refine v_iadd hz dX8_areSame_46 ?_
      refine v_bi (v := nI 8) hz dX8_areSame_47 (by decide) ?_
      refine v_iload_n hz dX8_areSame_49 rfl ?_
      first | with_reducible refine v_imulN hz dX8_areSame_50 ?_ | refine v_imul hz dX8_areSame_50 ?_
      refine v_iload hz dX8_areSame_51 rfl ?_
      first | with_reducible refine v_iaddN hz dX8_areSame_53 ?_ | refine v_iadd hz dX8_areSame_53 ?_
      refine v_callVi hz lX8_99 (cX8_isSameSign_ok _ _ _ _ _ _ A hm (8 * s1 + k) (8 * s2 + k) _ _ _ _ _ _ (x4 k (by omega)).1 (y4 k (by omega)).1 (x4 k (by omega)).2 (y4 k (by omega)).2) (by assumption) rfl rfl (Nat.le_of_ble_eq_true rfl) (by decide) ⟨Nat.zero_le _, Nat.zero_le _⟩ dX8_areSame_54 (fun r I1 h54 => ?_)
      obtain ⟨rfl, rfl⟩ := h54
      refine v_top (bz_c (sgs_s o1 o2 (by omega) c36)) ?_
      refine v_istore_n hz dX8_areSame_57 (by decide) rfl ?_
      first | refine v_iincN hz 1 dX8_areSame_58 (by decide) rfl (by decide) rfl ?_ | refine v_iinc hz dX8_areSame_58 rfl (by decide) rfl ?_
      refine v_goto hz 24 dX8_areSame_61 (by decide) ?_
      exact v_sub (ih (k + 1) (by omega) (by omega)) ⟨rfl, rfl, rfl, rfl, rfl, trivial⟩
set_option maxHeartbeats 4000000 in
set_option maxRecDepth 100000 in
theorem cX8_areSame_ok (l : Launch) (g : Gz) (κ : Kz) (I : Iz) (R : Rz) (J : Jz) (A : Nat → Nat) (hm : LM κ R A) (s1 s2 : Nat) (S T : Sg) (h1 : msg I A s1 S) (h2 : msg I A s2 T) (o1 : okQ S) (o2 : okQ T) : Ct l mX8_areSame 0 0 g [.ref (A 130), .int (nI s1), .int (nI s2)] κ I R J (Si κ R J (fun r I1 => r = sameI S T ∧ I1 = I)) := by
  refine ct_of (by decide) (Nat.le_of_ble_eq_true rfl) ?_
  intro z hz hr hrc hrs
  have hz : Am z cX8_areSame RX8 5 1 := hz
  have hr : Rt z yX8_areSame (some .boolean) 0 0 _ := hr
  show V z 5 0 0 0 [(0, .ref (A 130)), (1, .int (nI s1)), (2, .int (nI s2))] [] κ I R J
  have hk := hm.k
  have ho := hm.o
  have hR4 := hm.r4
  have hK4 := hm.k4
  have hN4 := hm.n4
  have hO4 := hm.o4
  obtain ⟨x1, x2, x3, x4⟩ := id h1
  obtain ⟨y1, y2, y3, y4⟩ := id h2
  obtain ⟨k0, hk0⟩ : ∃ k : Nat, k = 0 := ⟨0, rfl⟩
  refine v_aload_n hz dX8_areSame_0 rfl ?_
  refine v_getR hz fX8_13 (by assumption) (by assumption) dX8_areSame_1 ?_
  refine v_iload_n hz dX8_areSame_4 rfl ?_
  refine v_ialdN hz (by assumption) (by assumption) (by omega) (by decide) dX8_areSame_5 ?_
  refine v_top x3 ?_
  refine v_aload_n hz dX8_areSame_6 rfl ?_
  refine v_getR hz fX8_13 (by assumption) (by assumption) dX8_areSame_7 ?_
  refine v_iload_n hz dX8_areSame_10 rfl ?_
  refine v_ialdN hz (by assumption) (by assumption) (by omega) (by decide) dX8_areSame_11 ?_
  refine v_top y3 ?_
  refine v_join2 20 (bz (S.1 = T.1 ∧ ∀ i, i < k0 → (S.2.1 i = T.2.1 i ∧ S.2.2.1 i = T.2.2.1 i ∧ ∀ j, j < S.2.1 i → S.2.2.2 i j = T.2.2.2 i j))) (fun hj => ?_) ?_
  · first | with_reducible refine v_icmp_neN hz 19 (by omega) (by omega) dX8_areSame_12 (by decide) (fun c12 => ?_) (fun c12 => ?_) | refine v_icmp_ne hz 19 dX8_areSame_12 (by decide) (fun c12 => ?_) (fun c12 => ?_)
    · refine v_ic (v := nI 0) hz dX8_areSame_19 (by decide) ?_
      exact v_top (by first | exact (bz_t ⟨by omega, fun j hj => absurd hj (by omega)⟩).symm | exact (bz_f (fun q => by have q1 := q.1; omega)).symm) hj
    · refine v_ic (v := nI 1) hz dX8_areSame_15 (by decide) ?_
      refine v_goto hz 20 dX8_areSame_16 (by decide) ?_
      exact v_top (by first | exact (bz_t ⟨by omega, fun j hj => absurd hj (by omega)⟩).symm | exact (bz_f (fun q => by have q1 := q.1; omega)).symm) hj
  refine v_istore_n hz dX8_areSame_20 (by decide) rfl ?_
  refine v_ic (v := nI 0) hz dX8_areSame_21 (by decide) ?_
  refine v_istore hz dX8_areSame_22 (by decide) rfl ?_
  subst hk0
  exact v_sub (lp_areSame hm hz h1 h2 o1 o2 hr (S.1 + 1) 0 (by omega) (by omega)) ⟨rfl, rfl, rfl, rfl, rfl, trivial⟩
