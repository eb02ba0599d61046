/-! ===== the reference: costs and steps ===== -/
/-- one of the reference's rows isn't another -/
def mT : List Nat := [0, 1, 4, 5, 6, 7, 8, 15, 16, 17, 19, 20, 21, 22, 23, 25, 26, 27, 28, 29]
theorem LM.tag {κ : Kz} {R : Rz} {A : Nat → Nat} (h : LM κ R A) {f : Nat} (hf : f ∈ mT) : κ.2.2 (A (130 + f)) = 130 + f := by
  simp only [mT, List.mem_cons, List.not_mem_nil, or_false] at hf
  rcases hf with rfl | rfl | rfl | rfl | rfl | rfl | rfl | rfl | rfl | rfl | rfl | rfl | rfl | rfl | rfl | rfl | rfl | rfl | rfl | rfl
  · exact h.o
  · exact h.o1
  · exact h.o4
  · exact h.o5
  · exact h.o6
  · exact h.o7
  · exact h.o8
  · exact h.o15
  · exact h.o16
  · exact h.o17
  · exact h.o19
  · exact h.o20
  · exact h.o21
  · exact h.o22
  · exact h.o23
  · exact h.o25
  · exact h.o26
  · exact h.o27
  · exact h.o28
  · exact h.o29
theorem LM.ne {κ : Kz} {R : Rz} {A : Nat → Nat} (h : LM κ R A) (f g : Nat) (hf : f ∈ mT) (hg : g ∈ mT) (e : f ≠ g) : A (130 + f) ≠ A (130 + g) := tag_ne (h.tag hf) (h.tag hg) (by omega)
/-- a row of the reference is as it was -/
theorem LM.fm {κ : Kz} {R : Rz} {A : Nat → Nat} (h : LM κ R A) {ts : List Nat} {I I1 : Iz} (hF : Fm ts A I I1) (f : Nat) (hf : f ∈ mT) (hts : ∀ t ∈ ts, 130 ≤ t ∧ t - 130 ∈ mT ∧ t - 130 ≠ f) : I1 (A (130 + f)) = I (A (130 + f)) := hF _ (fun t ht => by
  obtain ⟨h1, h2, h3⟩ := hts t ht
  have := h.ne f (t - 130) hf h2 (Ne.symm h3)
  rw [show 130 + (t - 130) = t by omega] at this
  exact this)
def wt (I : Iz) (A : Nat → Nat) (w : Nat) : Prop := I (A 130) 9 = nI w ∧ 1 ≤ w ∧ w ≤ 20
def dgt (I : Iz) (A : Nat → Nat) (q D : Nat) : Prop := I (A 137) q = nI D ∧ D < 10
/-- a segment of the reference, at its place s -/
def msg (I : Iz) (A : Nat → Nat) (s : Nat) (S : Sg) : Prop := s < 14 ∧ S.1 ≤ 8 ∧ I (A 134) s = nI S.1 ∧ ∀ i, i < S.1 → msn I A (8 * s + i) (S.2.1 i) (S.2.2.2 i) ∧ dgt I A (8 * s + i) (S.2.2.1 i)
theorem msg.keep {I I1 : Iz} {A : Nat → Nat} {s : Nat} {S : Sg} (h : msg I A s S) (h4 : I1 (A 134) = I (A 134)) (h6 : I1 (A 136) = I (A 136)) (h7 : I1 (A 137) = I (A 137)) (h8 : I1 (A 138) = I (A 138)) : msg I1 A s S := by
  unfold msg msn dgt
  rw [h4, h6, h7, h8]
  exact h
theorem bcq_ne {N w L1 D1 : Nat} {T1 : Nat → Nat} {L2 D2 : Nat} {T2 : Nat → Nat} (h : ¬ bz (0 < L1) = bz (0 < L2)) : N = bcq N w L1 D1 T1 L2 D2 T2 := by
  unfold bcq
  by_cases a : 0 < L1 <;> by_cases b : 0 < L2
  · exact absurd (by rw [bz_t a, bz_t b]) h
  · simp [a, b]
  · simp [a, b]
  · exact absurd (by rw [bz_f a, bz_f b]) h
theorem bz_iff {p q : Prop} [Decidable p] [Decidable q] (h : bz p = bz q) : p ↔ q := by
  by_cases a : p <;> by_cases b : q
  · simp [a, b]
  · rw [bz_t a, bz_f b] at h; exact absurd h (by decide)
  · rw [bz_f a, bz_t b] at h; exact absurd h (by decide)
  · simp [a, b]
theorem bcq_w {N w L1 D1 : Nat} {T1 : Nat → Nat} {L2 D2 : Nat} {T2 : Nat → Nat} (h : bz (0 < L1) = bz (0 < L2)) (h1 : 0 < L1) : alk L1 T1 L2 T2 = bcq N w L1 D1 T1 L2 D2 T2 := by
  unfold bcq
  rw [if_pos h1, if_pos ((bz_iff h).mp h1)]
theorem bcq_t {N w L1 D1 : Nat} {T1 : Nat → Nat} {L2 D2 : Nat} {T2 : Nat → Nat} (h : bz (0 < L1) = bz (0 < L2)) (h1 : ¬ 0 < L1) (e : D1 = D2) : 0 = bcq N w L1 D1 T1 L2 D2 T2 := by
  unfold bcq
  rw [if_neg h1, if_neg (fun q => h1 ((bz_iff h).mpr q)), if_pos e]
theorem bcq_u {N w L1 D1 : Nat} {T1 : Nat → Nat} {L2 D2 : Nat} {T2 : Nat → Nat} (h : bz (0 < L1) = bz (0 < L2)) (h1 : ¬ 0 < L1) (e : D1 ≠ D2) : w = bcq N w L1 D1 T1 L2 D2 T2 := by
  unfold bcq
  rw [if_neg h1, if_neg (fun q => h1 ((bz_iff h).mpr q)), if_neg e]
set_option maxHeartbeats 4000000 in
set_option maxRecDepth 100000 in
theorem cX8_isWord_ok (l : Launch) (g : Gz) (κ : Kz) (I : Iz) (R : Rz) (J : Jz) (A : Nat → Nat) (hm : LM κ R A) (q L : Nat) (hq : q < 112) (hL : L ≤ 12) (hs : I (A 136) q = nI L) : Ct l mX8_isWord 0 0 g [.ref (A 130), .int (nI q)] κ I R J (Si κ R J (fun r I1 => r = bz (0 < L) ∧ I1 = I)) := by
  refine ct_of (by decide) (Nat.le_of_ble_eq_true rfl) ?_
  intro z hz hr hrc hrs
  have hz : Am z cX8_isWord RX8 2 0 := hz
  have hr : Rt z yX8_isWord (some .boolean) 0 0 _ := hr
  show V z 2 0 0 0 [(0, .ref (A 130)), (1, .int (nI q))] [] κ I R J
  have hk := hm.k
  have ho := hm.o
  have hR6 := hm.r6
  have hK6 := hm.k6
  have hN6 := hm.n6
  have hO6 := hm.o6
  refine v_aload_n hz dX8_isWord_0 rfl ?_
  refine v_getR hz fX8_19 (by assumption) (by assumption) dX8_isWord_1 ?_
  refine v_iload_n hz dX8_isWord_4 rfl ?_
  refine v_ialdN hz (by assumption) (by assumption) (by omega) (by decide) dX8_isWord_5 ?_
  refine v_top hs ?_
  first | with_reducible refine v_if_leN hz 13 (by omega) dX8_isWord_6 (by decide) (fun c6 => ?_) (fun c6 => ?_) | refine v_if_le hz 13 dX8_isWord_6 (by decide) (fun c6 => ?_) (fun c6 => ?_)
  · refine v_ic (v := nI 0) hz dX8_isWord_13 (by decide) ?_
    exact v_zret hz hr dX8_isWord_14 (by first | exact Or.inl rfl | exact Or.inr rfl | exact bz_01) ⟨by first | exact (bz_t (by omega)).symm | exact (bz_f (by omega)).symm, rfl⟩
  · refine v_ic (v := nI 1) hz dX8_isWord_9 (by decide) ?_
    refine v_goto hz 14 dX8_isWord_10 (by decide) ?_
    exact v_zret hz hr dX8_isWord_14 (by first | exact Or.inl rfl | exact Or.inr rfl | exact bz_01) ⟨by first | exact (bz_t (by omega)).symm | exact (bz_f (by omega)).symm, rfl⟩
set_option maxHeartbeats 4000000 in
set_option maxRecDepth 100000 in
theorem cX8_costOf_ok (l : Launch) (g : Gz) (κ : Kz) (I : Iz) (R : Rz) (J : Jz) (A : Nat → Nat) (hm : LM κ R A) (q L w : Nat) (hq : q < 112) (hL : L ≤ 12) (hs : I (A 136) q = nI L) (hw : I (A 130) 9 = nI w) : Ct l mX8_costOf 0 0 g [.ref (A 130), .int (nI q)] κ I R J (Si κ R J (fun r I1 => r = nI (cst w L) ∧ I1 = I)) := by
  refine ct_of (by decide) (Nat.le_of_ble_eq_true rfl) ?_
  intro z hz hr hrc hrs
  have hz : Am z cX8_costOf RX8 2 1 := hz
  have hr : Rt z yX8_costOf (some .int) 0 0 _ := hr
  show V z 2 0 0 0 [(0, .ref (A 130)), (1, .int (nI q))] [] κ I R J
  have hk := hm.k
  have ho := hm.o
  refine v_aload_n hz dX8_costOf_0 rfl ?_
  refine v_iload_n hz dX8_costOf_1 rfl ?_
  refine v_callVi hz lX8_140 (cX8_isWord_ok _ _ _ _ _ _ A hm q L hq hL hs) (by assumption) rfl rfl (Nat.le_of_ble_eq_true rfl) (by decide) ⟨Nat.zero_le _, Nat.zero_le _⟩ dX8_costOf_2 (fun r I1 h2 => ?_)
  obtain ⟨rfl, rfl⟩ := h2
  first | with_reducible refine v_if_eqB hz 13 dX8_costOf_5 (by decide) (fun c5 => ?_) (fun c5 => ?_) | with_reducible refine v_if_eqN hz 13 (by omega) dX8_costOf_5 (by decide) (fun c5 => ?_) (fun c5 => ?_) | refine v_if_eq hz 13 dX8_costOf_5 (by decide) (fun c5 => ?_) (fun c5 => ?_)
  · refine v_aload_n hz dX8_costOf_13 rfl ?_
    refine v_getI hz fX8_28 (by assumption) dX8_costOf_14 ?_
    refine v_top hw ?_
    exact v_iret hz hr dX8_costOf_17 ⟨by first | rw [cst, if_pos c5] | rw [cst, if_neg c5], rfl⟩
  · refine v_bi (v := nI 10) hz dX8_costOf_8 (by decide) ?_
    refine v_goto hz 17 dX8_costOf_10 (by decide) ?_
    exact v_iret hz hr dX8_costOf_17 ⟨by first | rw [cst, if_pos c5] | rw [cst, if_neg c5], rfl⟩
set_option maxHeartbeats 4000000 in
set_option maxRecDepth 100000 in
theorem cX8_alikeNow_ok (l : Launch) (g : Gz) (κ : Kz) (I : Iz) (R : Rz) (J : Jz) (A : Nat → Nat) (hm : LM κ R A) (q1 q2 L1 L2 : Nat) (T1 T2 : Nat → Nat) (h1 : msn I A q1 L1 T1) (h2 : msn I A q2 L2 T2) (hp : 0 < max L1 L2) : Ct l mX8_alikeNow 0 0 g [.ref (A 130), .int (nI q1), .int (nI q2)] κ I R J (Si κ R J (fun r I1 => r = nI (alk L1 T1 L2 T2) ∧ Fm [145] A I I1)) := by
  refine ct_of (by decide) (Nat.le_of_ble_eq_true rfl) ?_
  intro z hz hr hrc hrs
  have hz : Am z cX8_alikeNow RX8 4 2 := hz
  have hr : Rt z yX8_alikeNow (some .int) 0 0 _ := hr
  show V z 4 0 0 0 [(0, .ref (A 130)), (1, .int (nI q1)), (2, .int (nI q2))] [] κ I R J
  have hk := hm.k
  have ho := hm.o
  have hR6 := hm.r6
  have hK6 := hm.k6
  have hN6 := hm.n6
  have hO6 := hm.o6
  have hq1 := h1.1
  have hq2 := h2.1
  have hL1 := h1.2.1
  have hL2 := h2.2.1
  have s1 := h1.2.2.1
  have s2 := h2.2.2.1
  have lv := lev_le T1 T2 L1 L2
  refine v_aload_n hz dX8_alikeNow_0 rfl ?_
  refine v_getR hz fX8_19 (by assumption) (by assumption) dX8_alikeNow_1 ?_
  refine v_iload_n hz dX8_alikeNow_4 rfl ?_
  refine v_ialdN hz (by assumption) (by assumption) (by omega) (by decide) dX8_alikeNow_5 ?_
  refine v_top s1 ?_
  refine v_aload_n hz dX8_alikeNow_6 rfl ?_
  refine v_getR hz fX8_19 (by assumption) (by assumption) dX8_alikeNow_7 ?_
  refine v_iload_n hz dX8_alikeNow_10 rfl ?_
  refine v_ialdN hz (by assumption) (by assumption) (by omega) (by decide) dX8_alikeNow_11 ?_
  refine v_top s2 ?_
  first | with_reducible refine v_icmp_leN hz 24 (by omega) (by omega) dX8_alikeNow_12 (by decide) (fun c12 => ?_) (fun c12 => ?_) | refine v_icmp_le hz 24 dX8_alikeNow_12 (by decide) (fun c12 => ?_) (fun c12 => ?_)
  · refine v_aload_n hz dX8_alikeNow_24 rfl ?_
    refine v_getR hz fX8_19 (by assumption) (by assumption) dX8_alikeNow_25 ?_
    refine v_iload_n hz dX8_alikeNow_28 rfl ?_
    refine v_ialdN hz (by assumption) (by assumption) (by omega) (by decide) dX8_alikeNow_29 ?_
    refine v_top s2 ?_
    refine v_istore_n hz dX8_alikeNow_30 (by decide) rfl ?_
    refine v_bi (v := nI 10) hz dX8_alikeNow_31 (by decide) ?_
    refine v_aload_n hz dX8_alikeNow_33 rfl ?_
    refine v_iload_n hz dX8_alikeNow_34 rfl ?_
    refine v_iload_n hz dX8_alikeNow_35 rfl ?_
    refine v_callVi hz lX8_137 (cX8_changes_ok _ _ _ _ _ _ A hm q1 q2 L1 L2 T1 T2 h1 h2) (by assumption) rfl rfl (Nat.le_of_ble_eq_true rfl) (by decide) ⟨Nat.zero_le _, Nat.zero_le _⟩ dX8_alikeNow_36 (fun r I1 h36 => ?_)
    obtain ⟨rfl, hF⟩ := h36
    first | with_reducible refine v_imulN hz dX8_alikeNow_39 ?_ | refine v_imul hz dX8_alikeNow_39 ?_
    refine v_iload_n hz dX8_alikeNow_40 rfl ?_
    first | with_reducible refine v_iaddN hz dX8_alikeNow_41 ?_ | refine v_iadd hz dX8_alikeNow_41 ?_
    refine v_ic (v := nI 1) hz dX8_alikeNow_42 (by decide) ?_
    refine v_isubN hz (by omega) dX8_alikeNow_43 ?_
    refine v_iload_n hz dX8_alikeNow_44 rfl ?_
    refine v_idivN hz (by omega) (by omega) (by omega) dX8_alikeNow_45 ?_
    exact v_iret hz hr dX8_alikeNow_46 ⟨by unfold alk; first | rw [Nat.max_eq_right c12] | rw [Nat.max_eq_left (by omega)], fun b hb => hF b (hb 145 (by simp))⟩
  · refine v_aload_n hz dX8_alikeNow_15 rfl ?_
    refine v_getR hz fX8_19 (by assumption) (by assumption) dX8_alikeNow_16 ?_
    refine v_iload_n hz dX8_alikeNow_19 rfl ?_
    refine v_ialdN hz (by assumption) (by assumption) (by omega) (by decide) dX8_alikeNow_20 ?_
    refine v_top s1 ?_
    refine v_goto hz 30 dX8_alikeNow_21 (by decide) ?_
    refine v_istore_n hz dX8_alikeNow_30 (by decide) rfl ?_
    refine v_bi (v := nI 10) hz dX8_alikeNow_31 (by decide) ?_
    refine v_aload_n hz dX8_alikeNow_33 rfl ?_
    refine v_iload_n hz dX8_alikeNow_34 rfl ?_
    refine v_iload_n hz dX8_alikeNow_35 rfl ?_
    refine v_callVi hz lX8_137 (cX8_changes_ok _ _ _ _ _ _ A hm q1 q2 L1 L2 T1 T2 h1 h2) (by assumption) rfl rfl (Nat.le_of_ble_eq_true rfl) (by decide) ⟨Nat.zero_le _, Nat.zero_le _⟩ dX8_alikeNow_36 (fun r I1 h36 => ?_)
    obtain ⟨rfl, hF⟩ := h36
    first | with_reducible refine v_imulN hz dX8_alikeNow_39 ?_ | refine v_imul hz dX8_alikeNow_39 ?_
    refine v_iload_n hz dX8_alikeNow_40 rfl ?_
    first | with_reducible refine v_iaddN hz dX8_alikeNow_41 ?_ | refine v_iadd hz dX8_alikeNow_41 ?_
    refine v_ic (v := nI 1) hz dX8_alikeNow_42 (by decide) ?_
    refine v_isubN hz (by omega) dX8_alikeNow_43 ?_
    refine v_iload_n hz dX8_alikeNow_44 rfl ?_
    refine v_idivN hz (by omega) (by omega) (by omega) dX8_alikeNow_45 ?_
    exact v_iret hz hr dX8_alikeNow_46 ⟨by unfold alk; first | rw [Nat.max_eq_right c12] | rw [Nat.max_eq_left (by omega)], fun b hb => hF b (hb 145 (by simp))⟩
set_option maxHeartbeats 4000000 in
set_option maxRecDepth 100000 in
theorem cX8_bothCost_ok (l : Launch) (g : Gz) (κ : Kz) (I : Iz) (R : Rz) (J : Jz) (A : Nat → Nat) (hm : LM κ R A) (w q1 q2 L1 L2 D1 D2 : Nat) (T1 T2 : Nat → Nat) (hw : I (A 130) 9 = nI w) (h1 : msn I A q1 L1 T1) (h2 : msn I A q2 L2 T2) (d1 : dgt I A q1 D1) (d2 : dgt I A q2 D2) : Ct l mX8_bothCost 0 0 g [.ref (A 130), .int (nI q1), .int (nI q2)] κ I R J (Si κ R J (fun r I1 => r = nI (bcq 1048576 w L1 D1 T1 L2 D2 T2) ∧ Fm [145] A I I1)) := by
  refine ct_of (by decide) (Nat.le_of_ble_eq_true rfl) ?_
  intro z hz hr hrc hrs
  have hz : Am z cX8_bothCost RX8 3 3 := hz
  have hr : Rt z yX8_bothCost (some .int) 0 0 _ := hr
  show V z 3 0 0 0 [(0, .ref (A 130)), (1, .int (nI q1)), (2, .int (nI q2))] [] κ I R J
  have hk := hm.k
  have ho := hm.o
  have hR7 := hm.r7
  have hK7 := hm.k7
  have hN7 := hm.n7
  have hO7 := hm.o7
  have hq1 := h1.1
  have hq2 := h2.1
  have hL1 := h1.2.1
  have hL2 := h2.2.1
  have s1 := h1.2.2.1
  have s2 := h2.2.2.1
  have e1 := d1.2
  have e2 := d2.2
  refine v_aload_n hz dX8_bothCost_0 rfl ?_
  refine v_iload_n hz dX8_bothCost_1 rfl ?_
  refine v_callVi hz lX8_140 (cX8_isWord_ok _ _ _ _ _ _ A hm q1 L1 hq1 hL1 s1) (by assumption) rfl rfl (Nat.le_of_ble_eq_true rfl) (by decide) ⟨Nat.zero_le _, Nat.zero_le _⟩ dX8_bothCost_2 (fun r I1 h2w => ?_)
  obtain ⟨rfl, rfl⟩ := h2w
  refine v_aload_n hz dX8_bothCost_5 rfl ?_
  refine v_iload_n hz dX8_bothCost_6 rfl ?_
  refine v_callVi hz lX8_140 (cX8_isWord_ok _ _ _ _ _ _ A hm q2 L2 hq2 hL2 s2) (by assumption) rfl rfl (Nat.le_of_ble_eq_true rfl) (by decide) ⟨Nat.zero_le _, Nat.zero_le _⟩ dX8_bothCost_7 (fun r I1 h7 => ?_)
  obtain ⟨rfl, rfl⟩ := h7
  refine v_icmp_eq hz 16 dX8_bothCost_10 (by decide) (fun c10 => ?_) (fun c10 => ?_)
  · refine v_aload_n hz dX8_bothCost_16 rfl ?_
    refine v_iload_n hz dX8_bothCost_17 rfl ?_
    refine v_callVi hz lX8_140 (cX8_isWord_ok _ _ _ _ _ _ A hm q1 L1 hq1 hL1 s1) (by assumption) rfl rfl (Nat.le_of_ble_eq_true rfl) (by decide) ⟨Nat.zero_le _, Nat.zero_le _⟩ dX8_bothCost_18 (fun r I1 h18 => ?_)
    obtain ⟨rfl, rfl⟩ := h18
    first | with_reducible refine v_if_eqB hz 33 dX8_bothCost_21 (by decide) (fun c21 => ?_) (fun c21 => ?_) | with_reducible refine v_if_eqN hz 33 (by omega) dX8_bothCost_21 (by decide) (fun c21 => ?_) (fun c21 => ?_) | refine v_if_eq hz 33 dX8_bothCost_21 (by decide) (fun c21 => ?_) (fun c21 => ?_)
    · refine v_aload_n hz dX8_bothCost_33 rfl ?_
      refine v_getR hz fX8_22 (by assumption) (by assumption) dX8_bothCost_34 ?_
      refine v_iload_n hz dX8_bothCost_37 rfl ?_
      refine v_ialdN hz (by assumption) (by assumption) (by omega) (by decide) dX8_bothCost_38 ?_
      refine v_top d1.1 ?_
      refine v_aload_n hz dX8_bothCost_39 rfl ?_
      refine v_getR hz fX8_22 (by assumption) (by assumption) dX8_bothCost_40 ?_
      refine v_iload_n hz dX8_bothCost_43 rfl ?_
      refine v_ialdN hz (by assumption) (by assumption) (by omega) (by decide) dX8_bothCost_44 ?_
      refine v_top d2.1 ?_
      first | with_reducible refine v_icmp_neN hz 52 (by omega) (by omega) dX8_bothCost_45 (by decide) (fun c45 => ?_) (fun c45 => ?_) | refine v_icmp_ne hz 52 dX8_bothCost_45 (by decide) (fun c45 => ?_) (fun c45 => ?_)
      · refine v_aload_n hz dX8_bothCost_52 rfl ?_
        refine v_getI hz fX8_28 (by assumption) dX8_bothCost_53 ?_
        refine v_top hw ?_
        exact v_iret hz hr dX8_bothCost_56 (by first | exact ⟨congrArg nI (bcq_w c10 c21), hF⟩ | exact ⟨congrArg nI (bcq_t c10 c21 (by omega)), Fm.rf⟩ | exact ⟨congrArg nI (bcq_u c10 c21 (by omega)), Fm.rf⟩)
      · refine v_ic (v := nI 0) hz dX8_bothCost_48 (by decide) ?_
        refine v_goto hz 56 dX8_bothCost_49 (by decide) ?_
        exact v_iret hz hr dX8_bothCost_56 (by first | exact ⟨congrArg nI (bcq_w c10 c21), hF⟩ | exact ⟨congrArg nI (bcq_t c10 c21 (by omega)), Fm.rf⟩ | exact ⟨congrArg nI (bcq_u c10 c21 (by omega)), Fm.rf⟩)
    · refine v_aload_n hz dX8_bothCost_24 rfl ?_
      refine v_iload_n hz dX8_bothCost_25 rfl ?_
      refine v_iload_n hz dX8_bothCost_26 rfl ?_
      refine v_callVi hz lX8_144 (cX8_alikeNow_ok _ _ _ _ _ _ A hm q1 q2 L1 L2 T1 T2 h1 h2 (by omega)) (by assumption) rfl rfl (Nat.le_of_ble_eq_true rfl) (by decide) ⟨Nat.zero_le _, Nat.zero_le _⟩ dX8_bothCost_27 (fun r I1 h27 => ?_)
      obtain ⟨rfl, hF⟩ := h27
      refine v_goto hz 56 dX8_bothCost_30 (by decide) ?_
      exact v_iret hz hr dX8_bothCost_56 (by first | exact ⟨congrArg nI (bcq_w c10 c21), hF⟩ | exact ⟨congrArg nI (bcq_t c10 c21 (by omega)), Fm.rf⟩ | exact ⟨congrArg nI (bcq_u c10 c21 (by omega)), Fm.rf⟩)
  · refine v_ldc (v := 1048576) hz (tg_mem 936 (by decide +kernel) rfl) dX8_bothCost_13 ?_
    refine v_top (y := nI 1048576) rfl ?_
    exact v_iret hz hr dX8_bothCost_15 ⟨congrArg nI (bcq_ne c10), Fm.rf⟩
