/-! ===== the reference: what is asked ===== -/
theorem QF.of1 {κ : Kz} {R : Rz} {A : Nat → Nat} (hm : LM κ R A) {I I1 : Iz} (h : Fm [145] A I I1) : QF A I I1 := QF.of hm (h.wid (by decide))
theorem QF.of3 {κ : Kz} {R : Rz} {A : Nat → Nat} (hm : LM κ R A) {I I1 : Iz} (h : Fm [153] A I I1) : QF A I I1 := ⟨h.wid (by decide), fun f _ _ _ => by rw [hm.fm h 0 (by decide) (by decide)]⟩
theorem QF.same {A : Nat → Nat} {I I1 : Iz} (h : I1 = I) : QF A I I1 := by rw [h]; exact QF.rf
theorem rmO_le {bd al : Nat} (h : al ≤ 320) : rmO bd al ≤ 320 := by
  unfold rmO
  have h1 : (1000 - bd) * al ≤ 1000 * 320 := Nat.mul_le_mul (by omega) h
  omega
theorem size_sub {a b : Nat} (ha : a ≤ 1000) (hb : b ≤ 1000) : (if nI a - nI b < 0 then -(nI a - nI b) else nI a - nI b) = nI (adf a b) := by
  unfold adf
  by_cases h : b ≤ a
  · have e : (nI a - nI b : Int32) = nI (a - b) := pk_sub h
    rw [e, if_neg, show a - b + (b - a) = a - b by omega]
    intro q
    have q2 := Int32.lt_iff_toInt_lt.mp q
    rw [nI_toInt (by omega), show (0 : Int32).toInt = 0 from rfl] at q2
    omega
  · have e : (nI b - nI a : Int32) = nI (b - a) := pk_sub (by omega)
    have e2 : -(nI a - nI b : Int32) = nI (b - a) := by rw [Int32.neg_sub]; exact e
    rw [if_pos, e2, show a - b + (b - a) = b - a by omega]
    have e3 : (nI a - nI b : Int32) = - nI (b - a) := by rw [← e2, Int32.neg_neg]
    rw [e3]
    refine Int32.lt_iff_toInt_lt.mpr ?_
    rw [Int32.toInt_neg, nI_toInt (by omega), show (0 : Int32).toInt = 0 from rfl]
    have : (-(((b - a : Nat)) : Int)).bmod (2 ^ 32) = -(((b - a : Nat)) : Int) := by
      apply Int.bmod_eq_of_le <;> omega
    rw [this]
    omega
set_option maxHeartbeats 4000000 in
set_option maxRecDepth 100000 in
theorem cX8_segmentNow_ok (l : Launch) (g : Gz) (κ : Kz) (I : Iz) (R : Rz) (J : Jz) (A : Nat → Nat) (hm : LM κ R A) (s v w : Nat) (S : Sg) (t : Int32) (hv : v < 6) (hw : wt I A w) (h1 : msg I A s S) (ht : I (A 135) s = t) : Ct l mX8_segmentNow 0 0 g [.ref (A 130), .int (nI s), .int (nI v)] κ I R J (Si κ R J (fun r I1 => r = segT S t w v ∧ I1 = I)) := by
  refine ct_of (by decide) (Nat.le_of_ble_eq_true rfl) ?_
  intro z hz hr hrc hrs
  have hz : Am z cX8_segmentNow RX8 3 3 := hz
  have hr : Rt z yX8_segmentNow (some .int) 0 0 _ := hr
  show V z 3 0 0 0 [(0, .ref (A 130)), (1, .int (nI s)), (2, .int (nI v))] [] κ I R J
  have hk := hm.k
  have ho := hm.o
  have hR4 := hm.r4
  have hK4 := hm.k4
  have hN4 := hm.n4
  have hO4 := hm.o4
  have hR5 := hm.r5
  have hK5 := hm.k5
  have hN5 := hm.n5
  have hO5 := hm.o5
  have hs14 := h1.1
  refine v_iload_n hz dX8_segmentNow_0 rfl ?_
  refine v_tsw hz 0 4 [36, 43, 49, 55, 61] 67 dX8_segmentNow_1 ⟨rfl, rfl⟩ (by decide) (by decide) (by decide) (fun j1 hj1_1 hj2_1 c1 => ?_) (fun c1 => ?_)
  · rcases (show j1 = 0 ∨ j1 = 1 ∨ j1 = 2 ∨ j1 = 3 ∨ j1 = 4 by omega) with rfl | rfl | rfl | rfl | rfl
    · refine v_pc (pc' := 36) rfl ?_
      have ev : v = 0 := (nI_eq (by omega) (by omega)).mp c1
      subst ev
      refine v_aload_n hz dX8_segmentNow_36 rfl ?_
      refine v_getR hz fX8_13 (by assumption) (by assumption) dX8_segmentNow_37 ?_
      refine v_iload_n hz dX8_segmentNow_40 rfl ?_
      refine v_ialdN hz (by assumption) (by assumption) (by omega) (by decide) dX8_segmentNow_41 ?_
      refine v_top h1.2.2.1 ?_
      exact v_iret hz hr dX8_segmentNow_42 ⟨rfl, rfl⟩
    · refine v_pc (pc' := 43) rfl ?_
      have ev : v = 1 := (nI_eq (by omega) (by omega)).mp c1
      subst ev
      refine v_aload_n hz dX8_segmentNow_43 rfl ?_
      refine v_iload_n hz dX8_segmentNow_44 rfl ?_
      refine v_callVi hz lX8_183 (cX8_wordsOf_ok _ _ _ _ _ _ A hm s S h1) (by assumption) rfl rfl (Nat.le_of_ble_eq_true rfl) (by decide) ⟨Nat.zero_le _, Nat.zero_le _⟩ dX8_segmentNow_45 (fun r I1 h45 => ?_)
      obtain ⟨rfl, eIh45⟩ := h45
      rw [eIh45]
      exact v_iret hz hr dX8_segmentNow_48 ⟨rfl, rfl⟩
    · refine v_pc (pc' := 49) rfl ?_
      have ev : v = 2 := (nI_eq (by omega) (by omega)).mp c1
      subst ev
      refine v_aload_n hz dX8_segmentNow_49 rfl ?_
      refine v_iload_n hz dX8_segmentNow_50 rfl ?_
      refine v_callVi hz lX8_186 (cX8_tagsOf_ok _ _ _ _ _ _ A hm s S h1) (by assumption) rfl rfl (Nat.le_of_ble_eq_true rfl) (by decide) ⟨Nat.zero_le _, Nat.zero_le _⟩ dX8_segmentNow_51 (fun r I1 h51 => ?_)
      obtain ⟨rfl, eIh51⟩ := h51
      rw [eIh51]
      exact v_iret hz hr dX8_segmentNow_54 ⟨rfl, rfl⟩
    · refine v_pc (pc' := 55) rfl ?_
      have ev : v = 3 := (nI_eq (by omega) (by omega)).mp c1
      subst ev
      refine v_aload_n hz dX8_segmentNow_55 rfl ?_
      refine v_iload_n hz dX8_segmentNow_56 rfl ?_
      refine v_callVi hz lX8_189 (cX8_gramsOf_ok _ _ _ _ _ _ A hm s S h1) (by assumption) rfl rfl (Nat.le_of_ble_eq_true rfl) (by decide) ⟨Nat.zero_le _, Nat.zero_le _⟩ dX8_segmentNow_57 (fun r I1 h57 => ?_)
      obtain ⟨rfl, eIh57⟩ := h57
      rw [eIh57]
      exact v_iret hz hr dX8_segmentNow_60 ⟨rfl, rfl⟩
    · refine v_pc (pc' := 61) rfl ?_
      have ev : v = 4 := (nI_eq (by omega) (by omega)).mp c1
      subst ev
      refine v_aload_n hz dX8_segmentNow_61 rfl ?_
      refine v_iload_n hz dX8_segmentNow_62 rfl ?_
      refine v_callVi hz lX8_164 (cX8_costAll_ok _ _ _ _ _ _ A hm w s S hw h1) (by assumption) rfl rfl (Nat.le_of_ble_eq_true rfl) (by decide) ⟨Nat.zero_le _, Nat.zero_le _⟩ dX8_segmentNow_63 (fun r I1 h63 => ?_)
      obtain ⟨rfl, eIh63⟩ := h63
      rw [eIh63]
      exact v_iret hz hr dX8_segmentNow_66 ⟨rfl, rfl⟩
  · have ev : v = 5 := by
      by_cases q : v = 5
      · exact q
      · exact (c1 ⟨v, Nat.zero_le _, by omega, rfl⟩).elim
    subst ev
    refine v_aload_n hz dX8_segmentNow_67 rfl ?_
    refine v_getR hz fX8_16 (by assumption) (by assumption) dX8_segmentNow_68 ?_
    refine v_iload_n hz dX8_segmentNow_71 rfl ?_
    refine v_ialdN hz (by assumption) (by assumption) (by omega) (by decide) dX8_segmentNow_72 ?_
    refine v_top ht ?_
    exact v_iret hz hr dX8_segmentNow_73 ⟨rfl, rfl⟩
set_option maxHeartbeats 4000000 in
set_option maxRecDepth 100000 in
theorem cX8_segment_ok (l : Launch) (g : Gz) (κ : Kz) (I : Iz) (R : Rz) (J : Jz) (A : Nat → Nat) (hm : LM κ R A) (pg : Nat → Nat) (n kn : Nat) (ks : Nat → Sg) (tm : Nat → Int32) (T : Sg) (qa w bd : Nat) (te td : Int32) (hs : MS I A pg n kn ks tm T qa w bd te td) (x y : Int32) : Ct l mX8_segment 0 0 g [.ref (A 130), .int x, .int y] κ I R J (Si κ R J (fun r I1 => r = segR kn ks tm w x y ∧ I1 = I)) := by
  refine ct_of (by decide) (Nat.le_of_ble_eq_true rfl) ?_
  intro z hz hr hrc hrs
  have hz : Am z cX8_segment RX8 3 4 := hz
  have hr : Rt z yX8_segment (some .int) 0 0 _ := hr
  show V z 3 0 0 0 [(0, .ref (A 130)), (1, .int x), (2, .int y)] [] κ I R J
  have hk := hm.k
  have ho := hm.o
  obtain ⟨⟨h0, h0a, h0b⟩, ⟨h2, h3, h4⟩, ⟨h5, h6, h7⟩, ⟨⟨h8, h8a⟩, h9, h10⟩, h11, h12⟩ := id hs
  refine v_aload_n hz dX8_segment_0 rfl ?_
  refine v_iload_n hz dX8_segment_1 rfl ?_
  refine v_callVi hz lX8_120 (cX8_isKept_ok _ _ _ _ _ _ A hm kn x h2 h3) (by assumption) rfl rfl (Nat.le_of_ble_eq_true rfl) (by decide) ⟨Nat.zero_le _, Nat.zero_le _⟩ dX8_segment_2 (fun r I2 hk2 => ?_)
  obtain ⟨rfl, eIhk2⟩ := hk2
  rw [eIhk2]
  first | with_reducible refine v_if_neB hz 12 dX8_segment_5 (by decide) (fun c5 => ?_) (fun c5 => ?_) | with_reducible refine v_if_neN hz 12 (by omega) dX8_segment_5 (by decide) (fun c5 => ?_) (fun c5 => ?_) | refine v_if_ne hz 12 dX8_segment_5 (by decide) (fun c5 => ?_) (fun c5 => ?_)
  · obtain ⟨s, rfl, hsk⟩ := kpt_of (by omega) c5
    refine v_iload_n hz dX8_segment_12 rfl ?_
    refine v_ic (v := nI 0) hz dX8_segment_13 (by decide) ?_
    refine v_ic (v := nI 5) hz dX8_segment_14 (by decide) ?_
    refine v_callSi hz lX8_75 (cX8_within_ok _ _ _ _ _ _ _ _ _) rfl rfl (Nat.le_of_ble_eq_true rfl) (by decide) ⟨Nat.zero_le _, Nat.zero_le _⟩ dX8_segment_15 (fun r I1 h15 => ?_)
    obtain ⟨rfl, eIh15⟩ := h15
    rw [eIh15]
    refine v_top (wth (k := 6) (by omega) (by omega)) ?_
    first | with_reducible refine v_if_eqB hz 30 dX8_segment_18 (by decide) (fun c18 => ?_) (fun c18 => ?_) | with_reducible refine v_if_eqN hz 30 (by omega) dX8_segment_18 (by decide) (fun c18 => ?_) (fun c18 => ?_) | refine v_if_eq hz 30 dX8_segment_18 (by decide) (fun c18 => ?_) (fun c18 => ?_)
    · refine v_si (v := (-1002)) hz dX8_segment_30 (by decide) ?_
      exact v_iret hz hr dX8_segment_33 (by first | exact ⟨by unfold segR; rw [if_pos c5, if_pos c18, nI_clamp (by omega), nI_clamp (by omega)], rfl⟩ | exact ⟨by unfold segR; rw [if_pos c5, if_neg c18], rfl⟩)
    · obtain ⟨v, rfl, hv6⟩ := kpt_of (by omega) c18
      refine v_aload_n hz dX8_segment_21 rfl ?_
      refine v_iload_n hz dX8_segment_22 rfl ?_
      refine v_iload_n hz dX8_segment_23 rfl ?_
      refine v_callVi hz lX8_192 (cX8_segmentNow_ok _ _ _ _ _ _ A hm s v w (ks s) (tm s) hv6 hs.2.2.2.1.1 (h4 s hsk).1 (h4 s hsk).2) (by assumption) rfl rfl (Nat.le_of_ble_eq_true rfl) (by decide) ⟨Nat.zero_le _, Nat.zero_le _⟩ dX8_segment_24 (fun r I1 h24 => ?_)
      obtain ⟨rfl, eIh24⟩ := h24
      rw [eIh24]
      refine v_goto hz 33 dX8_segment_27 (by decide) ?_
      exact v_iret hz hr dX8_segment_33 (by first | exact ⟨by unfold segR; rw [if_pos c5, if_pos c18, nI_clamp (by omega), nI_clamp (by omega)], rfl⟩ | exact ⟨by unfold segR; rw [if_pos c5, if_neg c18], rfl⟩)
  · refine v_si (v := (-1001)) hz dX8_segment_8 (by decide) ?_
    exact v_iret hz hr dX8_segment_11 ⟨(if_neg c5).symm, rfl⟩
set_option maxHeartbeats 4000000 in
set_option maxRecDepth 100000 in
theorem cX8_isSign_ok (l : Launch) (g : Gz) (κ : Kz) (I : Iz) (R : Rz) (J : Jz) (A : Nat → Nat) (hm : LM κ R A) (kn : Nat) (ks : Nat → Sg) (x y : Int32) (h2 : kn ≤ 12) (h3 : I (A 130) 2 = nI kn) (h4 : ∀ i, i < kn → msg I A i (ks i)) : Ct l mX8_isSign 0 0 g [.ref (A 130), .int x, .int y] κ I R J (Si κ R J (fun r I1 => r = bz ((0 ≤ x ∧ x < nI kn) ∧ (0 ≤ y ∧ y < nI (ks x.toNatClampNeg).1)) ∧ I1 = I)) := by
  refine ct_of (by decide) (Nat.le_of_ble_eq_true rfl) ?_
  intro z hz hr hrc hrs
  have hz : Am z cX8_isSign RX8 3 2 := hz
  have hr : Rt z yX8_isSign (some .boolean) 0 0 _ := hr
  show V z 3 0 0 0 [(0, .ref (A 130)), (1, .int x), (2, .int y)] [] κ I R J
  have hk := hm.k
  have ho := hm.o
  have hR4 := hm.r4
  have hK4 := hm.k4
  have hN4 := hm.n4
  have hO4 := hm.o4
  refine v_aload_n hz dX8_isSign_0 rfl ?_
  refine v_iload_n hz dX8_isSign_1 rfl ?_
  refine v_callVi hz lX8_120 (cX8_isKept_ok _ _ _ _ _ _ A hm kn x h2 h3) (by assumption) rfl rfl (Nat.le_of_ble_eq_true rfl) (by decide) ⟨Nat.zero_le _, Nat.zero_le _⟩ dX8_isSign_2 (fun r I2 hk2 => ?_)
  obtain ⟨rfl, eIhk2⟩ := hk2
  rw [eIhk2]
  first | with_reducible refine v_if_eqB hz 28 dX8_isSign_5 (by decide) (fun c5 => ?_) (fun c5 => ?_) | with_reducible refine v_if_eqN hz 28 (by omega) dX8_isSign_5 (by decide) (fun c5 => ?_) (fun c5 => ?_) | refine v_if_eq hz 28 dX8_isSign_5 (by decide) (fun c5 => ?_) (fun c5 => ?_)
  · refine v_ic (v := nI 0) hz dX8_isSign_28 (by decide) ?_
    exact v_zret hz hr dX8_isSign_29 (by first | exact Or.inl rfl | exact Or.inr rfl) (by first | exact ⟨(bz_f (fun q => absurd q.1 c5)).symm, rfl⟩ | exact ⟨(bz_t (by rw [nI_clamp (by omega)]; exact ⟨c5, c21⟩)).symm, rfl⟩ | exact ⟨(bz_f (by rw [nI_clamp (by omega)]; exact fun q => c21 q.2)).symm, rfl⟩)
  · obtain ⟨s, rfl, hsk⟩ := kpt_of (by omega) c5
    have hS8 := (h4 s hsk).2.1
    refine v_iload_n hz dX8_isSign_8 rfl ?_
    refine v_ic (v := nI 0) hz dX8_isSign_9 (by decide) ?_
    refine v_aload_n hz dX8_isSign_10 rfl ?_
    refine v_getR hz fX8_13 (by assumption) (by assumption) dX8_isSign_11 ?_
    refine v_iload_n hz dX8_isSign_14 rfl ?_
    refine v_ialdN hz (by assumption) (by assumption) (by omega) (by decide) dX8_isSign_15 ?_
    refine v_top (h4 s hsk).2.2.1 ?_
    refine v_ic (v := nI 1) hz dX8_isSign_16 (by decide) ?_
    refine v_isub hz dX8_isSign_17 ?_
    refine v_callSi hz lX8_75 (cX8_within_ok _ _ _ _ _ _ _ _ _) rfl rfl (Nat.le_of_ble_eq_true rfl) (by decide) ⟨Nat.zero_le _, Nat.zero_le _⟩ dX8_isSign_18 (fun r I1 h18 => ?_)
    obtain ⟨rfl, eIh18⟩ := h18
    rw [eIh18]
    refine v_top (kpt_w (by omega)) ?_
    first | with_reducible refine v_if_eqB hz 28 dX8_isSign_21 (by decide) (fun c21 => ?_) (fun c21 => ?_) | with_reducible refine v_if_eqN hz 28 (by omega) dX8_isSign_21 (by decide) (fun c21 => ?_) (fun c21 => ?_) | refine v_if_eq hz 28 dX8_isSign_21 (by decide) (fun c21 => ?_) (fun c21 => ?_)
    · refine v_ic (v := nI 0) hz dX8_isSign_28 (by decide) ?_
      exact v_zret hz hr dX8_isSign_29 (by first | exact Or.inl rfl | exact Or.inr rfl) (by first | exact ⟨(bz_f (fun q => absurd q.1 c5)).symm, rfl⟩ | exact ⟨(bz_t (by rw [nI_clamp (by omega)]; exact ⟨c5, c21⟩)).symm, rfl⟩ | exact ⟨(bz_f (by rw [nI_clamp (by omega)]; exact fun q => c21 q.2)).symm, rfl⟩)
    · refine v_ic (v := nI 1) hz dX8_isSign_24 (by decide) ?_
      refine v_goto hz 29 dX8_isSign_25 (by decide) ?_
      exact v_zret hz hr dX8_isSign_29 (by first | exact Or.inl rfl | exact Or.inr rfl) (by first | exact ⟨(bz_f (fun q => absurd q.1 c5)).symm, rfl⟩ | exact ⟨(bz_t (by rw [nI_clamp (by omega)]; exact ⟨c5, c21⟩)).symm, rfl⟩ | exact ⟨(bz_f (by rw [nI_clamp (by omega)]; exact fun q => c21 q.2)).symm, rfl⟩)
set_option maxHeartbeats 4000000 in
set_option maxRecDepth 100000 in
theorem cX8_signNow_ok (l : Launch) (g : Gz) (κ : Kz) (I : Iz) (R : Rz) (J : Jz) (A : Nat → Nat) (hm : LM κ R A) (q v L D : Nat) (T : Nat → Nat) (hv : v < 14) (h1 : msn I A q L T) (h2 : dgt I A q D) (hLD : 0 < L → D = 0) : Ct l mX8_signNow 0 0 g [.ref (A 130), .int (nI q), .int (nI v)] κ I R J (Si κ R J (fun r I1 => r = sgnT L D T v ∧ I1 = I)) := by
  refine ct_of (by decide) (Nat.le_of_ble_eq_true rfl) ?_
  intro z hz hr hrc hrs
  have hz : Am z cX8_signNow RX8 3 1 := hz
  have hr : Rt z yX8_signNow (some .int) 0 0 _ := hr
  show V z 3 0 0 0 [(0, .ref (A 130)), (1, .int (nI q)), (2, .int (nI v))] [] κ I R J
  have hk := hm.k
  have ho := hm.o
  have hR6 := hm.r6
  have hK6 := hm.k6
  have hN6 := hm.n6
  have hO6 := hm.o6
  have hR7 := hm.r7
  have hK7 := hm.k7
  have hN7 := hm.n7
  have hO7 := hm.o7
  have hR8 := hm.r8
  have hK8 := hm.k8
  have hN8 := hm.n8
  have hO8 := hm.o8
  obtain ⟨x1, x2, x3, x4⟩ := id h1
  refine v_iload_n hz dX8_signNow_0 rfl ?_
  refine v_ic (v := nI 2) hz dX8_signNow_1 (by decide) ?_
  first | with_reducible refine v_icmp_geN hz 37 (by omega) (by omega) dX8_signNow_2 (by decide) (fun c2 => ?_) (fun c2 => ?_) | refine v_icmp_ge hz 37 dX8_signNow_2 (by decide) (fun c2 => ?_) (fun c2 => ?_)
  · refine v_iload_n hz dX8_signNow_37 rfl ?_
    refine v_ic (v := nI 2) hz dX8_signNow_38 (by decide) ?_
    refine v_isubN hz (by omega) dX8_signNow_39 ?_
    refine v_aload_n hz dX8_signNow_40 rfl ?_
    refine v_getR hz fX8_19 (by assumption) (by assumption) dX8_signNow_41 ?_
    refine v_iload_n hz dX8_signNow_44 rfl ?_
    refine v_ialdN hz (by assumption) (by assumption) (by omega) (by decide) dX8_signNow_45 ?_
    refine v_top x3 ?_
    first | with_reducible refine v_icmp_geN hz 65 (by omega) (by omega) dX8_signNow_46 (by decide) (fun c46 => ?_) (fun c46 => ?_) | refine v_icmp_ge hz 65 dX8_signNow_46 (by decide) (fun c46 => ?_) (fun c46 => ?_)
    · refine v_ic (v := (-1)) hz dX8_signNow_65 (by decide) ?_
      exact v_iret hz hr dX8_signNow_66 (by first | exact ⟨by unfold sgnT; rw [if_neg (by omega), if_neg (by omega), if_pos (by omega)], rfl⟩ | exact ⟨by unfold sgnT; rw [if_neg (by omega), if_neg (by omega), if_neg (by omega)], rfl⟩)
    · refine v_aload_n hz dX8_signNow_49 rfl ?_
      refine v_getR hz fX8_25 (by assumption) (by assumption) dX8_signNow_50 ?_
      refine v_bi (v := nI 12) hz dX8_signNow_53 (by decide) ?_
      refine v_iload_n hz dX8_signNow_55 rfl ?_
      first | with_reducible refine v_imulN hz dX8_signNow_56 ?_ | refine v_imul hz dX8_signNow_56 ?_
      refine v_iload_n hz dX8_signNow_57 rfl ?_
      first | with_reducible refine v_iaddN hz dX8_signNow_58 ?_ | refine v_iadd hz dX8_signNow_58 ?_
      refine v_ic (v := nI 2) hz dX8_signNow_59 (by decide) ?_
      refine v_isubN hz (by omega) dX8_signNow_60 ?_
      refine v_ialdN hz (by assumption) (by assumption) (by omega) (by decide) dX8_signNow_61 ?_
      refine v_top (y := nI (T (v - 2))) (by rw [show 12 * q + v - 2 = 12 * q + (v - 2) by omega]; exact (x4 (v - 2) (by omega)).1) ?_
      refine v_goto hz 66 dX8_signNow_62 (by decide) ?_
      exact v_iret hz hr dX8_signNow_66 (by first | exact ⟨by unfold sgnT; rw [if_neg (by omega), if_neg (by omega), if_pos (by omega)], rfl⟩ | exact ⟨by unfold sgnT; rw [if_neg (by omega), if_neg (by omega), if_neg (by omega)], rfl⟩)
  · refine v_iload_n hz dX8_signNow_5 rfl ?_
    first | with_reducible refine v_if_neB hz 18 dX8_signNow_6 (by decide) (fun c6 => ?_) (fun c6 => ?_) | with_reducible refine v_if_neN hz 18 (by omega) dX8_signNow_6 (by decide) (fun c6 => ?_) (fun c6 => ?_) | refine v_if_ne hz 18 dX8_signNow_6 (by decide) (fun c6 => ?_) (fun c6 => ?_)
    · refine v_aload_n hz dX8_signNow_18 rfl ?_
      refine v_iload_n hz dX8_signNow_19 rfl ?_
      refine v_callVi hz lX8_140 (cX8_isWord_ok _ _ _ _ _ _ A hm q L x1 x2 x3) (by assumption) rfl rfl (Nat.le_of_ble_eq_true rfl) (by decide) ⟨Nat.zero_le _, Nat.zero_le _⟩ dX8_signNow_20 (fun r I1 h20 => ?_)
      obtain ⟨rfl, eIh20⟩ := h20
      rw [eIh20]
      first | with_reducible refine v_if_eqB hz 30 dX8_signNow_23 (by decide) (fun c23 => ?_) (fun c23 => ?_) | with_reducible refine v_if_eqN hz 30 (by omega) dX8_signNow_23 (by decide) (fun c23 => ?_) (fun c23 => ?_) | refine v_if_eq hz 30 dX8_signNow_23 (by decide) (fun c23 => ?_) (fun c23 => ?_)
      · refine v_aload_n hz dX8_signNow_30 rfl ?_
        refine v_getR hz fX8_22 (by assumption) (by assumption) dX8_signNow_31 ?_
        refine v_iload_n hz dX8_signNow_34 rfl ?_
        refine v_ialdN hz (by assumption) (by assumption) (by omega) (by decide) dX8_signNow_35 ?_
        refine v_top h2.1 ?_
        exact v_iret hz hr dX8_signNow_36 (by first | exact ⟨by unfold sgnT; rw [if_pos (by omega)], rfl⟩ | exact ⟨by unfold sgnT; rw [if_neg (by omega), if_pos (by omega), hLD c23], rfl⟩ | exact ⟨by unfold sgnT; rw [if_neg (by omega), if_pos (by omega)], rfl⟩)
      · refine v_ic (v := nI 0) hz dX8_signNow_26 (by decide) ?_
        refine v_goto hz 36 dX8_signNow_27 (by decide) ?_
        exact v_iret hz hr dX8_signNow_36 (by first | exact ⟨by unfold sgnT; rw [if_pos (by omega)], rfl⟩ | exact ⟨by unfold sgnT; rw [if_neg (by omega), if_pos (by omega), hLD c23], rfl⟩ | exact ⟨by unfold sgnT; rw [if_neg (by omega), if_pos (by omega)], rfl⟩)
    · refine v_aload_n hz dX8_signNow_9 rfl ?_
      refine v_getR hz fX8_19 (by assumption) (by assumption) dX8_signNow_10 ?_
      refine v_iload_n hz dX8_signNow_13 rfl ?_
      refine v_ialdN hz (by assumption) (by assumption) (by omega) (by decide) dX8_signNow_14 ?_
      refine v_top x3 ?_
      refine v_goto hz 36 dX8_signNow_15 (by decide) ?_
      exact v_iret hz hr dX8_signNow_36 (by first | exact ⟨by unfold sgnT; rw [if_pos (by omega)], rfl⟩ | exact ⟨by unfold sgnT; rw [if_neg (by omega), if_pos (by omega), hLD c23], rfl⟩ | exact ⟨by unfold sgnT; rw [if_neg (by omega), if_pos (by omega)], rfl⟩)
set_option maxHeartbeats 4000000 in
set_option maxRecDepth 100000 in
theorem cX8_sign_ok (l : Launch) (g : Gz) (κ : Kz) (I : Iz) (R : Rz) (J : Jz) (A : Nat → Nat) (hm : LM κ R A) (pg : Nat → Nat) (n kn : Nat) (ks : Nat → Sg) (tm : Nat → Int32) (T : Sg) (qa w bd : Nat) (te td : Int32) (hs : MS I A pg n kn ks tm T qa w bd te td) (hv : ∀ i, i < kn → okQ (ks i)) (x y v : Int32) : Ct l mX8_sign 0 0 g [.ref (A 130), .int x, .int y, .int v] κ I R J (Si κ R J (fun r I1 => r = sgnR kn ks x y v ∧ I1 = I)) := by
  refine ct_of (by decide) (Nat.le_of_ble_eq_true rfl) ?_
  intro z hz hr hrc hrs
  have hz : Am z cX8_sign RX8 4 3 := hz
  have hr : Rt z yX8_sign (some .int) 0 0 _ := hr
  show V z 4 0 0 0 [(0, .ref (A 130)), (1, .int x), (2, .int y), (3, .int v)] [] κ I R J
  have hk := hm.k
  have ho := hm.o
  obtain ⟨⟨h0, h0a, h0b⟩, ⟨h2, h3, h4⟩, ⟨h5, h6, h7⟩, ⟨⟨h8, h8a⟩, h9, h10⟩, h11, h12⟩ := id hs
  refine v_aload_n hz dX8_sign_0 rfl ?_
  refine v_iload_n hz dX8_sign_1 rfl ?_
  refine v_iload_n hz dX8_sign_2 rfl ?_
  refine v_callVi hz lX8_195 (cX8_isSign_ok _ _ _ _ _ _ A hm kn ks x y h2 h3 (fun i hi => (h4 i hi).1)) (by assumption) rfl rfl (Nat.le_of_ble_eq_true rfl) (by decide) ⟨Nat.zero_le _, Nat.zero_le _⟩ dX8_sign_3 (fun r I2 hk2 => ?_)
  obtain ⟨rfl, eIhk2⟩ := hk2
  rw [eIhk2]
  first | with_reducible refine v_if_neB hz 13 dX8_sign_6 (by decide) (fun c6 => ?_) (fun c6 => ?_) | with_reducible refine v_if_neN hz 13 (by omega) dX8_sign_6 (by decide) (fun c6 => ?_) (fun c6 => ?_) | refine v_if_ne hz 13 dX8_sign_6 (by decide) (fun c6 => ?_) (fun c6 => ?_)
  · obtain ⟨s, rfl, hsk⟩ := kpt_of (by omega) c6.1
    have c6b := c6
    rw [nI_clamp (by omega)] at c6b
    have hS8 := (h4 s hsk).1.2.1
    obtain ⟨i, rfl, hi⟩ := kpt_of (by omega) c6b.2
    refine v_iload_n hz dX8_sign_13 rfl ?_
    refine v_ic (v := nI 0) hz dX8_sign_14 (by decide) ?_
    refine v_bi (v := nI 13) hz dX8_sign_15 (by decide) ?_
    refine v_callSi hz lX8_75 (cX8_within_ok _ _ _ _ _ _ _ _ _) rfl rfl (Nat.le_of_ble_eq_true rfl) (by decide) ⟨Nat.zero_le _, Nat.zero_le _⟩ dX8_sign_17 (fun r I1 h17 => ?_)
    obtain ⟨rfl, eIh17⟩ := h17
    rw [eIh17]
    refine v_top (wth (k := 14) (by omega) (by omega)) ?_
    first | with_reducible refine v_if_eqB hz 37 dX8_sign_20 (by decide) (fun c20 => ?_) (fun c20 => ?_) | with_reducible refine v_if_eqN hz 37 (by omega) dX8_sign_20 (by decide) (fun c20 => ?_) (fun c20 => ?_) | refine v_if_eq hz 37 dX8_sign_20 (by decide) (fun c20 => ?_) (fun c20 => ?_)
    · refine v_si (v := (-1002)) hz dX8_sign_37 (by decide) ?_
      exact v_iret hz hr dX8_sign_40 (by first | exact ⟨by unfold sgnR; rw [if_pos c6, if_pos c20, nI_clamp (by omega), nI_clamp (by omega), nI_clamp (by omega)], rfl⟩ | exact ⟨by unfold sgnR; rw [if_pos c6, if_neg c20], rfl⟩)
    · obtain ⟨u, rfl, hu⟩ := kpt_of (by omega) c20
      refine v_aload_n hz dX8_sign_23 rfl ?_
      refine v_bi (v := nI 8) hz dX8_sign_24 (by decide) ?_
      refine v_iload_n hz dX8_sign_26 rfl ?_
      first | with_reducible refine v_imulN hz dX8_sign_27 ?_ | refine v_imul hz dX8_sign_27 ?_
      refine v_iload_n hz dX8_sign_28 rfl ?_
      first | with_reducible refine v_iaddN hz dX8_sign_29 ?_ | refine v_iadd hz dX8_sign_29 ?_
      refine v_iload_n hz dX8_sign_30 rfl ?_
      refine v_callVi hz lX8_198 (cX8_signNow_ok _ _ _ _ _ _ A hm (8 * s + i) u _ _ _ hu ((h4 s hsk).1.2.2.2 i hi).1 ((h4 s hsk).1.2.2.2 i hi).2 ((hv s hsk).2.2 i hi).2.2.2.1) (by assumption) rfl rfl (Nat.le_of_ble_eq_true rfl) (by decide) ⟨Nat.zero_le _, Nat.zero_le _⟩ dX8_sign_31 (fun r I1 h31 => ?_)
      obtain ⟨rfl, eIh31⟩ := h31
      rw [eIh31]
      refine v_goto hz 40 dX8_sign_34 (by decide) ?_
      exact v_iret hz hr dX8_sign_40 (by first | exact ⟨by unfold sgnR; rw [if_pos c6, if_pos c20, nI_clamp (by omega), nI_clamp (by omega), nI_clamp (by omega)], rfl⟩ | exact ⟨by unfold sgnR; rw [if_pos c6, if_neg c20], rfl⟩)
  · refine v_si (v := (-1001)) hz dX8_sign_9 (by decide) ?_
    exact v_iret hz hr dX8_sign_12 ⟨(if_neg c6).symm, rfl⟩
set_option maxHeartbeats 4000000 in
set_option maxRecDepth 100000 in
theorem cX8_alike_ok (l : Launch) (g : Gz) (κ : Kz) (I : Iz) (R : Rz) (J : Jz) (A : Nat → Nat) (hm : LM κ R A) (pg : Nat → Nat) (n kn : Nat) (ks : Nat → Sg) (tm : Nat → Int32) (T : Sg) (qa w bd : Nat) (te td : Int32) (hs : MS I A pg n kn ks tm T qa w bd te td) (hv : ∀ i, i < kn → okQ (ks i)) (a i b j : Int32) : Ct l mX8_alike 0 0 g [.ref (A 130), .int a, .int i, .int b, .int j] κ I R J (Si κ R J (fun r I1 => r = alkR kn ks a i b j ∧ QF A I I1)) := by
  refine ct_of (by decide) (Nat.le_of_ble_eq_true rfl) ?_
  intro z hz hr hrc hrs
  have hz : Am z cX8_alike RX8 6 3 := hz
  have hr : Rt z yX8_alike (some .int) 0 0 _ := hr
  show V z 6 0 0 0 [(0, .ref (A 130)), (1, .int a), (2, .int i), (3, .int b), (4, .int j)] [] κ I R J
  have hk := hm.k
  have ho := hm.o
  obtain ⟨⟨h0, h0a, h0b⟩, ⟨h2, h3, h4⟩, ⟨h5, h6, h7⟩, ⟨⟨h8, h8a⟩, h9, h10⟩, h11, h12⟩ := id hs
  refine v_aload_n hz dX8_alike_0 rfl ?_
  refine v_iload_n hz dX8_alike_1 rfl ?_
  refine v_iload_n hz dX8_alike_2 rfl ?_
  refine v_callVi hz lX8_195 (cX8_isSign_ok _ _ _ _ _ _ A hm kn ks a i h2 h3 (fun i hi => (h4 i hi).1)) (by assumption) rfl rfl (Nat.le_of_ble_eq_true rfl) (by decide) ⟨Nat.zero_le _, Nat.zero_le _⟩ dX8_alike_3 (fun r I2 hk2 => ?_)
  obtain ⟨rfl, eIhk2⟩ := hk2
  rw [eIhk2]
  first | with_reducible refine v_if_eqB hz 19 dX8_alike_6 (by decide) (fun c6 => ?_) (fun c6 => ?_) | with_reducible refine v_if_eqN hz 19 (by omega) dX8_alike_6 (by decide) (fun c6 => ?_) (fun c6 => ?_) | refine v_if_eq hz 19 dX8_alike_6 (by decide) (fun c6 => ?_) (fun c6 => ?_)
  · refine v_si (v := (-1001)) hz dX8_alike_19 (by decide) ?_
    exact v_iret hz hr dX8_alike_22 (by first | exact ⟨(if_neg (fun q => c6 q.1)).symm, QF.rf⟩ | exact ⟨(if_neg (fun q => c16 q.2)).symm, QF.rf⟩)
  · refine v_aload_n hz dX8_alike_9 rfl ?_
    refine v_iload_n hz dX8_alike_10 rfl ?_
    refine v_iload hz dX8_alike_11 rfl ?_
    refine v_callVi hz lX8_195 (cX8_isSign_ok _ _ _ _ _ _ A hm kn ks b j h2 h3 (fun i hi => (h4 i hi).1)) (by assumption) rfl rfl (Nat.le_of_ble_eq_true rfl) (by decide) ⟨Nat.zero_le _, Nat.zero_le _⟩ dX8_alike_13 (fun r I2 hk3 => ?_)
    obtain ⟨rfl, eIhk3⟩ := hk3
    rw [eIhk3]
    first | with_reducible refine v_if_neB hz 23 dX8_alike_16 (by decide) (fun c16 => ?_) (fun c16 => ?_) | with_reducible refine v_if_neN hz 23 (by omega) dX8_alike_16 (by decide) (fun c16 => ?_) (fun c16 => ?_) | refine v_if_ne hz 23 dX8_alike_16 (by decide) (fun c16 => ?_) (fun c16 => ?_)
    · obtain ⟨s, rfl, hsk⟩ := kpt_of (by omega) c6.1
      have c6b := c6
      rw [nI_clamp (by omega)] at c6b
      have hS8 := (h4 s hsk).1.2.1
      obtain ⟨i, rfl, hi⟩ := kpt_of (by omega) c6b.2
      obtain ⟨t, rfl, htk⟩ := kpt_of (by omega) c16.1
      have c16b := c16
      rw [nI_clamp (by omega)] at c16b
      have hT8 := (h4 t htk).1.2.1
      obtain ⟨j, rfl, hj⟩ := kpt_of (by omega) c16b.2
      have g1 := ((h4 s hsk).1.2.2.2 i hi).1
      have g2 := ((h4 t htk).1.2.2.2 j hj).1
      have ea : alkR kn ks (nI s) (nI i) (nI t) (nI j) = (if 0 < (ks s).2.1 i ∧ 0 < (ks t).2.1 j then nI (alk ((ks s).2.1 i) ((ks s).2.2.2 i) ((ks t).2.1 j) ((ks t).2.2.2 j)) else -1) := by unfold alkR; rw [if_pos ⟨c6, c16⟩, nI_clamp (by omega), nI_clamp (by omega), nI_clamp (by omega), nI_clamp (by omega)]
      refine v_aload_n hz dX8_alike_23 rfl ?_
      refine v_bi (v := nI 8) hz dX8_alike_24 (by decide) ?_
      refine v_iload_n hz dX8_alike_26 rfl ?_
      first | with_reducible refine v_imulN hz dX8_alike_27 ?_ | refine v_imul hz dX8_alike_27 ?_
      refine v_iload_n hz dX8_alike_28 rfl ?_
      first | with_reducible refine v_iaddN hz dX8_alike_29 ?_ | refine v_iadd hz dX8_alike_29 ?_
      refine v_callVi hz lX8_140 (cX8_isWord_ok _ _ _ _ _ _ A hm (8 * s + i) _ (by omega) g1.2.1 g1.2.2.1) (by assumption) rfl rfl (Nat.le_of_ble_eq_true rfl) (by decide) ⟨Nat.zero_le _, Nat.zero_le _⟩ dX8_alike_30 (fun r I1 h30 => ?_)
      obtain ⟨rfl, eIh30⟩ := h30
      rw [eIh30]
      refine v_join 55 (bz (0 < (ks s).2.1 i ∧ 0 < (ks t).2.1 j)) (fun hj => ?_) ?_
      · first | with_reducible refine v_if_eqB hz 54 dX8_alike_33 (by decide) (fun c33 => ?_) (fun c33 => ?_) | with_reducible refine v_if_eqN hz 54 (by omega) dX8_alike_33 (by decide) (fun c33 => ?_) (fun c33 => ?_) | refine v_if_eq hz 54 dX8_alike_33 (by decide) (fun c33 => ?_) (fun c33 => ?_)
        · refine v_ic (v := nI 0) hz dX8_alike_54 (by decide) ?_
          exact v_top (by first | exact (bz_f (fun q => c33 q.1)).symm | exact (bz_f (fun q => c47 q.2)).symm | exact (bz_t ⟨c33, c47⟩).symm) hj
        · refine v_aload_n hz dX8_alike_36 rfl ?_
          refine v_bi (v := nI 8) hz dX8_alike_37 (by decide) ?_
          refine v_iload_n hz dX8_alike_39 rfl ?_
          first | with_reducible refine v_imulN hz dX8_alike_40 ?_ | refine v_imul hz dX8_alike_40 ?_
          refine v_iload hz dX8_alike_41 rfl ?_
          first | with_reducible refine v_iaddN hz dX8_alike_43 ?_ | refine v_iadd hz dX8_alike_43 ?_
          refine v_callVi hz lX8_140 (cX8_isWord_ok _ _ _ _ _ _ A hm (8 * t + j) _ (by omega) g2.2.1 g2.2.2.1) (by assumption) rfl rfl (Nat.le_of_ble_eq_true rfl) (by decide) ⟨Nat.zero_le _, Nat.zero_le _⟩ dX8_alike_44 (fun r I1 h44 => ?_)
          obtain ⟨rfl, eIh44⟩ := h44
          rw [eIh44]
          first | with_reducible refine v_if_eqB hz 54 dX8_alike_47 (by decide) (fun c47 => ?_) (fun c47 => ?_) | with_reducible refine v_if_eqN hz 54 (by omega) dX8_alike_47 (by decide) (fun c47 => ?_) (fun c47 => ?_) | refine v_if_eq hz 54 dX8_alike_47 (by decide) (fun c47 => ?_) (fun c47 => ?_)
          · refine v_ic (v := nI 0) hz dX8_alike_54 (by decide) ?_
            exact v_top (by first | exact (bz_f (fun q => c33 q.1)).symm | exact (bz_f (fun q => c47 q.2)).symm | exact (bz_t ⟨c33, c47⟩).symm) hj
          · refine v_ic (v := nI 1) hz dX8_alike_50 (by decide) ?_
            refine v_goto hz 55 dX8_alike_51 (by decide) ?_
            exact v_top (by first | exact (bz_f (fun q => c33 q.1)).symm | exact (bz_f (fun q => c47 q.2)).symm | exact (bz_t ⟨c33, c47⟩).symm) hj
      refine v_istore hz dX8_alike_55 (by decide) rfl ?_
      refine v_iload hz dX8_alike_57 rfl ?_
      first | with_reducible refine v_if_eqB hz 82 dX8_alike_59 (by decide) (fun c59 => ?_) (fun c59 => ?_) | with_reducible refine v_if_eqN hz 82 (by omega) dX8_alike_59 (by decide) (fun c59 => ?_) (fun c59 => ?_) | refine v_if_eq hz 82 dX8_alike_59 (by decide) (fun c59 => ?_) (fun c59 => ?_)
      · refine v_ic (v := (-1)) hz dX8_alike_82 (by decide) ?_
        exact v_iret hz hr dX8_alike_83 (by first | exact ⟨by rw [ea, if_pos c59], QF.of1 hm hF⟩ | exact ⟨by rw [ea, if_neg c59], QF.rf⟩)
      · refine v_aload_n hz dX8_alike_62 rfl ?_
        refine v_bi (v := nI 8) hz dX8_alike_63 (by decide) ?_
        refine v_iload_n hz dX8_alike_65 rfl ?_
        first | with_reducible refine v_imulN hz dX8_alike_66 ?_ | refine v_imul hz dX8_alike_66 ?_
        refine v_iload_n hz dX8_alike_67 rfl ?_
        first | with_reducible refine v_iaddN hz dX8_alike_68 ?_ | refine v_iadd hz dX8_alike_68 ?_
        refine v_bi (v := nI 8) hz dX8_alike_69 (by decide) ?_
        refine v_iload_n hz dX8_alike_71 rfl ?_
        first | with_reducible refine v_imulN hz dX8_alike_72 ?_ | refine v_imul hz dX8_alike_72 ?_
        refine v_iload hz dX8_alike_73 rfl ?_
        first | with_reducible refine v_iaddN hz dX8_alike_75 ?_ | refine v_iadd hz dX8_alike_75 ?_
        refine v_callVi hz lX8_144 (cX8_alikeNow_ok _ _ _ _ _ _ A hm (8 * s + i) (8 * t + j) _ _ _ _ g1 g2 (by have := c59.1; omega)) (by assumption) rfl rfl (Nat.le_of_ble_eq_true rfl) (by decide) ⟨Nat.zero_le _, Nat.zero_le _⟩ dX8_alike_76 (fun r I3 h76 => ?_)
        obtain ⟨rfl, hF⟩ := h76
        refine v_goto hz 83 dX8_alike_79 (by decide) ?_
        exact v_iret hz hr dX8_alike_83 (by first | exact ⟨by rw [ea, if_pos c59], QF.of1 hm hF⟩ | exact ⟨by rw [ea, if_neg c59], QF.rf⟩)
    · refine v_si (v := (-1001)) hz dX8_alike_19 (by decide) ?_
      exact v_iret hz hr dX8_alike_22 (by first | exact ⟨(if_neg (fun q => c6 q.1)).symm, QF.rf⟩ | exact ⟨(if_neg (fun q => c16 q.2)).symm, QF.rf⟩)
set_option maxHeartbeats 4000000 in
set_option maxRecDepth 100000 in
theorem cX8_twoNow_ok (l : Launch) (g : Gz) (κ : Kz) (I : Iz) (R : Rz) (J : Jz) (A : Nat → Nat) (hm : LM κ R A) (s1 s2 v w : Nat) (S T : Sg) (hv : v < 5) (hw : wt I A w) (h1 : msg I A s1 S) (h2 : msg I A s2 T) (o1 : okQ S) (o2 : okQ T) : Ct l mX8_twoNow 0 0 g [.ref (A 130), .int (nI s1), .int (nI s2), .int (nI v)] κ I R J (Si κ R J (fun r I1 => r = twT w S T v ∧ QF A I I1)) := by
  refine ct_of (by decide) (Nat.le_of_ble_eq_true rfl) ?_
  intro z hz hr hrc hrs
  have hz : Am z cX8_twoNow RX8 4 7 := hz
  have hr : Rt z yX8_twoNow (some .int) 0 0 _ := hr
  show V z 4 0 0 0 [(0, .ref (A 130)), (1, .int (nI s1)), (2, .int (nI s2)), (3, .int (nI v))] [] κ I R J
  have hk := hm.k
  have ho := hm.o
  refine v_iload_n hz dX8_twoNow_0 rfl ?_
  refine v_tsw hz 0 3 [32, 39, 46, 53] 60 dX8_twoNow_1 ⟨rfl, rfl⟩ (by decide) (by decide) (by decide) (fun j1 hj1_1 hj2_1 c1 => ?_) (fun c1 => ?_)
  · rcases (show j1 = 0 ∨ j1 = 1 ∨ j1 = 2 ∨ j1 = 3 by omega) with rfl | rfl | rfl | rfl
    · refine v_pc (pc' := 32) rfl ?_
      have ev : v = 0 := (nI_eq (by omega) (by omega)).mp c1
      subst ev
      refine v_aload_n hz dX8_twoNow_32 rfl ?_
      refine v_iload_n hz dX8_twoNow_33 rfl ?_
      refine v_iload_n hz dX8_twoNow_34 rfl ?_
      refine v_callVi hz lX8_170 (cX8_farOf_ok _ _ _ _ _ _ A hm w s1 s2 S T hw h1 h2) (by assumption) rfl rfl (Nat.le_of_ble_eq_true rfl) (by decide) ⟨Nat.zero_le _, Nat.zero_le _⟩ dX8_twoNow_35 (fun r I1 h35 => ?_)
      exact v_iret hz hr dX8_twoNow_38 ⟨h35.1, QF.of hm h35.2⟩
    · refine v_pc (pc' := 39) rfl ?_
      have ev : v = 1 := (nI_eq (by omega) (by omega)).mp c1
      subst ev
      refine v_aload_n hz dX8_twoNow_39 rfl ?_
      refine v_iload_n hz dX8_twoNow_40 rfl ?_
      refine v_iload_n hz dX8_twoNow_41 rfl ?_
      refine v_callVi hz lX8_167 (cX8_allOf_ok _ _ _ _ _ _ A hm w s1 s2 S T hw h1 h2) (by assumption) rfl rfl (Nat.le_of_ble_eq_true rfl) (by decide) ⟨Nat.zero_le _, Nat.zero_le _⟩ dX8_twoNow_42 (fun r I1 h42 => ?_)
      exact v_iret hz hr dX8_twoNow_45 ⟨h42.1, QF.same h42.2⟩
    · refine v_pc (pc' := 46) rfl ?_
      have ev : v = 2 := (nI_eq (by omega) (by omega)).mp c1
      subst ev
      refine v_aload_n hz dX8_twoNow_46 rfl ?_
      refine v_iload_n hz dX8_twoNow_47 rfl ?_
      refine v_iload_n hz dX8_twoNow_48 rfl ?_
      refine v_callVi hz lX8_204 (cX8_scoreOf_ok _ _ _ _ _ _ A hm w s1 s2 S T hw h1 h2 o1.1.1) (by assumption) rfl rfl (Nat.le_of_ble_eq_true rfl) (by decide) ⟨Nat.zero_le _, Nat.zero_le _⟩ dX8_twoNow_49 (fun r I1 h49 => ?_)
      exact v_iret hz hr dX8_twoNow_52 ⟨h49.1, QF.of hm h49.2⟩
    · refine v_pc (pc' := 53) rfl ?_
      have ev : v = 3 := (nI_eq (by omega) (by omega)).mp c1
      subst ev
      refine v_aload_n hz dX8_twoNow_53 rfl ?_
      refine v_iload_n hz dX8_twoNow_54 rfl ?_
      refine v_iload_n hz dX8_twoNow_55 rfl ?_
      refine v_callVi hz lX8_207 (cX8_sharedOf_ok _ _ _ _ _ _ A hm s1 s2 S T h1 h2 o1.1 o2.1) (by assumption) rfl rfl (Nat.le_of_ble_eq_true rfl) (by decide) ⟨Nat.zero_le _, Nat.zero_le _⟩ dX8_twoNow_56 (fun r I1 h56 => ?_)
      exact v_iret hz hr dX8_twoNow_59 ⟨h56.1.trans (congrArg nI (shM_eq o1.1 o2.1)), QF.of3 hm h56.2⟩
  · have ev : v = 4 := by
      by_cases q : v = 4
      · exact q
      · exact (c1 ⟨v, Nat.zero_le _, by omega, rfl⟩).elim
    subst ev
    refine v_aload_n hz dX8_twoNow_60 rfl ?_
    refine v_iload_n hz dX8_twoNow_61 rfl ?_
    refine v_iload_n hz dX8_twoNow_62 rfl ?_
    refine v_callVi hz lX8_210 (cX8_stepsOf_ok _ _ _ _ _ _ A hm w s1 s2 S T hw h1 h2) (by assumption) rfl rfl (Nat.le_of_ble_eq_true rfl) (by decide) ⟨Nat.zero_le _, Nat.zero_le _⟩ dX8_twoNow_63 (fun r I1 h63 => ?_)
    exact v_iret hz hr dX8_twoNow_66 (by obtain ⟨q1, k, q2, q3, -⟩ := h63; exact ⟨q2.trans (congrArg nI (nsf_eq q3).symm), q1⟩)
set_option maxHeartbeats 4000000 in
set_option maxRecDepth 100000 in
theorem cX8_two_ok (l : Launch) (g : Gz) (κ : Kz) (I : Iz) (R : Rz) (J : Jz) (A : Nat → Nat) (hm : LM κ R A) (pg : Nat → Nat) (n kn : Nat) (ks : Nat → Sg) (tm : Nat → Int32) (T : Sg) (qa w bd : Nat) (te td : Int32) (hs : MS I A pg n kn ks tm T qa w bd te td) (hv : ∀ i, i < kn → okQ (ks i)) (a b v : Int32) : Ct l mX8_two 0 0 g [.ref (A 130), .int a, .int b, .int v] κ I R J (Si κ R J (fun r I1 => r = twoR kn ks w a b v ∧ QF A I I1)) := by
  refine ct_of (by decide) (Nat.le_of_ble_eq_true rfl) ?_
  intro z hz hr hrc hrs
  have hz : Am z cX8_two RX8 4 8 := hz
  have hr : Rt z yX8_two (some .int) 0 0 _ := hr
  show V z 4 0 0 0 [(0, .ref (A 130)), (1, .int a), (2, .int b), (3, .int v)] [] κ I R J
  have hk := hm.k
  have ho := hm.o
  obtain ⟨⟨h0, h0a, h0b⟩, ⟨h2, h3, h4⟩, ⟨h5, h6, h7⟩, ⟨⟨h8, h8a⟩, h9, h10⟩, h11, h12⟩ := id hs
  refine v_aload_n hz dX8_two_0 rfl ?_
  refine v_iload_n hz dX8_two_1 rfl ?_
  refine v_callVi hz lX8_120 (cX8_isKept_ok _ _ _ _ _ _ A hm kn a h2 h3) (by assumption) rfl rfl (Nat.le_of_ble_eq_true rfl) (by decide) ⟨Nat.zero_le _, Nat.zero_le _⟩ dX8_two_2 (fun r I2 hk2 => ?_)
  obtain ⟨rfl, eIhk2⟩ := hk2
  rw [eIhk2]
  first | with_reducible refine v_if_eqB hz 16 dX8_two_5 (by decide) (fun c5 => ?_) (fun c5 => ?_) | with_reducible refine v_if_eqN hz 16 (by omega) dX8_two_5 (by decide) (fun c5 => ?_) (fun c5 => ?_) | refine v_if_eq hz 16 dX8_two_5 (by decide) (fun c5 => ?_) (fun c5 => ?_)
  · refine v_si (v := (-1001)) hz dX8_two_16 (by decide) ?_
    exact v_iret hz hr dX8_two_19 (by first | exact ⟨(if_neg (fun q => c5 q.1)).symm, QF.rf⟩ | exact ⟨(if_neg (fun q => c13 q.2)).symm, QF.rf⟩)
  · refine v_aload_n hz dX8_two_8 rfl ?_
    refine v_iload_n hz dX8_two_9 rfl ?_
    refine v_callVi hz lX8_120 (cX8_isKept_ok _ _ _ _ _ _ A hm kn b h2 h3) (by assumption) rfl rfl (Nat.le_of_ble_eq_true rfl) (by decide) ⟨Nat.zero_le _, Nat.zero_le _⟩ dX8_two_10 (fun r I2 hk3 => ?_)
    obtain ⟨rfl, eIhk3⟩ := hk3
    rw [eIhk3]
    first | with_reducible refine v_if_neB hz 20 dX8_two_13 (by decide) (fun c13 => ?_) (fun c13 => ?_) | with_reducible refine v_if_neN hz 20 (by omega) dX8_two_13 (by decide) (fun c13 => ?_) (fun c13 => ?_) | refine v_if_ne hz 20 dX8_two_13 (by decide) (fun c13 => ?_) (fun c13 => ?_)
    · obtain ⟨s, rfl, hsk⟩ := kpt_of (by omega) c5
      obtain ⟨t, rfl, htk⟩ := kpt_of (by omega) c13
      refine v_iload_n hz dX8_two_20 rfl ?_
      refine v_ic (v := nI 0) hz dX8_two_21 (by decide) ?_
      refine v_ic (v := nI 4) hz dX8_two_22 (by decide) ?_
      refine v_callSi hz lX8_75 (cX8_within_ok _ _ _ _ _ _ _ _ _) rfl rfl (Nat.le_of_ble_eq_true rfl) (by decide) ⟨Nat.zero_le _, Nat.zero_le _⟩ dX8_two_23 (fun r I1 h23 => ?_)
      obtain ⟨rfl, eIh23⟩ := h23
      rw [eIh23]
      refine v_top (wth (k := 5) (by omega) (by omega)) ?_
      first | with_reducible refine v_if_eqB hz 39 dX8_two_26 (by decide) (fun c26 => ?_) (fun c26 => ?_) | with_reducible refine v_if_eqN hz 39 (by omega) dX8_two_26 (by decide) (fun c26 => ?_) (fun c26 => ?_) | refine v_if_eq hz 39 dX8_two_26 (by decide) (fun c26 => ?_) (fun c26 => ?_)
      · refine v_si (v := (-1002)) hz dX8_two_39 (by decide) ?_
        exact v_iret hz hr dX8_two_42 (by first | exact ⟨by unfold twoR; rw [if_pos ⟨c5, c13⟩, if_pos c26, nI_clamp (by omega), nI_clamp (by omega), nI_clamp (by omega)]; exact h33.1, h33.2⟩ | exact ⟨by unfold twoR; rw [if_pos ⟨c5, c13⟩, if_neg c26], QF.rf⟩)
      · obtain ⟨u, rfl, hu⟩ := kpt_of (by omega) c26
        refine v_aload_n hz dX8_two_29 rfl ?_
        refine v_iload_n hz dX8_two_30 rfl ?_
        refine v_iload_n hz dX8_two_31 rfl ?_
        refine v_iload_n hz dX8_two_32 rfl ?_
        refine v_callVi hz lX8_213 (cX8_twoNow_ok _ _ _ _ _ _ A hm s t u w (ks s) (ks t) hu hs.2.2.2.1.1 (h4 s hsk).1 (h4 t htk).1 (hv s hsk) (hv t htk)) (by assumption) rfl rfl (Nat.le_of_ble_eq_true rfl) (by decide) ⟨Nat.zero_le _, Nat.zero_le _⟩ dX8_two_33 (fun r I1 h33 => ?_)
        refine v_goto hz 42 dX8_two_36 (by decide) ?_
        exact v_iret hz hr dX8_two_42 (by first | exact ⟨by unfold twoR; rw [if_pos ⟨c5, c13⟩, if_pos c26, nI_clamp (by omega), nI_clamp (by omega), nI_clamp (by omega)]; exact h33.1, h33.2⟩ | exact ⟨by unfold twoR; rw [if_pos ⟨c5, c13⟩, if_neg c26], QF.rf⟩)
    · refine v_si (v := (-1001)) hz dX8_two_16 (by decide) ?_
      exact v_iret hz hr dX8_two_19 (by first | exact ⟨(if_neg (fun q => c5 q.1)).symm, QF.rf⟩ | exact ⟨(if_neg (fun q => c13 q.2)).symm, QF.rf⟩)
set_option maxHeartbeats 4000000 in
set_option maxRecDepth 100000 in
theorem cX8_roomOf_ok (l : Launch) (g : Gz) (κ : Kz) (I : Iz) (R : Rz) (J : Jz) (A : Nat → Nat) (hm : LM κ R A) (s w bd : Nat) (S T : Sg) (hw : wt I A w) (hb : I (A 130) 10 = nI bd) (hbd : bd ≤ 1000) (h1 : msg I A s S) (h2 : msg I A 12 T) (o1 : okQ S) (o2 : okQ T) : Ct l mX8_roomOf 0 0 g [.ref (A 130), .int (nI s)] κ I R J (Si κ R J (fun r I1 => r = nI (rmO bd (cal w S + cal w T)) ∧ I1 = I)) := by
  refine ct_of (by decide) (Nat.le_of_ble_eq_true rfl) ?_
  intro z hz hr hrc hrs
  have hz : Am z cX8_roomOf RX8 2 4 := hz
  have hr : Rt z yX8_roomOf (some .int) 0 0 _ := hr
  show V z 2 0 0 0 [(0, .ref (A 130)), (1, .int (nI s))] [] κ I R J
  have hk := hm.k
  have ho := hm.o
  have ca1 := cal_le (S := S) hw.2.2 h1.2.1
  have ca2 := cal_le (S := T) hw.2.2 h2.2.1
  have w20 := hw.2.2
  refine v_si (v := nI 1000) hz dX8_roomOf_0 (by decide) ?_
  refine v_aload_n hz dX8_roomOf_3 rfl ?_
  refine v_getI hz fX8_32 (by assumption) dX8_roomOf_4 ?_
  refine v_top hb ?_
  refine v_isubN hz (by omega) dX8_roomOf_7 ?_
  refine v_aload_n hz dX8_roomOf_8 rfl ?_
  refine v_iload_n hz dX8_roomOf_9 rfl ?_
  refine v_bi (v := nI 12) hz dX8_roomOf_10 (by decide) ?_
  refine v_callVi hz lX8_167 (cX8_allOf_ok _ _ _ _ _ _ A hm w s 12 S T hw h1 h2) (by assumption) rfl rfl (Nat.le_of_ble_eq_true rfl) (by decide) ⟨Nat.zero_le _, Nat.zero_le _⟩ dX8_roomOf_12 (fun r I1 h12 => ?_)
  obtain ⟨rfl, eIh12⟩ := h12
  rw [eIh12]
  have hmu : (1000 - bd) * (cal w S + cal w T) ≤ 1000 * 320 := Nat.mul_le_mul (by omega) (by omega)
  first | with_reducible refine v_imulN hz dX8_roomOf_15 ?_ | refine v_imul hz dX8_roomOf_15 ?_
  refine v_si (v := nI 1000) hz dX8_roomOf_16 (by decide) ?_
  refine v_idivN hz (by omega) (by omega) (by omega) dX8_roomOf_19 ?_
  exact v_iret hz hr dX8_roomOf_20 ⟨rfl, rfl⟩
set_option maxHeartbeats 4000000 in
set_option maxRecDepth 100000 in
theorem cX8_canByLengths_ok (l : Launch) (g : Gz) (κ : Kz) (I : Iz) (R : Rz) (J : Jz) (A : Nat → Nat) (hm : LM κ R A) (s w bd : Nat) (S T : Sg) (hw : wt I A w) (hb : I (A 130) 10 = nI bd) (hbd : bd ≤ 1000) (h1 : msg I A s S) (h2 : msg I A 12 T) (o1 : okQ S) (o2 : okQ T) : Ct l mX8_canByLengths 0 0 g [.ref (A 130), .int (nI s)] κ I R J (Si κ R J (fun r I1 => r = cbL w (wds S) (wds T) (S.1 - wds S) (T.1 - wds T) (rmO bd (cal w S + cal w T)) ∧ I1 = I)) := by
  refine ct_of (by decide) (Nat.le_of_ble_eq_true rfl) ?_
  intro z hz hr hrc hrs
  have hz : Am z cX8_canByLengths RX8 4 5 := hz
  have hr : Rt z yX8_canByLengths (some .boolean) 0 0 _ := hr
  show V z 4 0 0 0 [(0, .ref (A 130)), (1, .int (nI s))] [] κ I R J
  have hk := hm.k
  have ho := hm.o
  have ca1 := cal_le (S := S) hw.2.2 h1.2.1
  have ca2 := cal_le (S := T) hw.2.2 h2.2.1
  have w20 := hw.2.2
  have wl1 := wds_le S
  have wl2 := wds_le T
  have s8 := h1.2.1
  have t8 := h2.2.1
  have rl := rmO_le (bd := bd) (show cal w S + cal w T ≤ 320 by omega)
  refine v_aload_n hz dX8_canByLengths_0 rfl ?_
  refine v_iload_n hz dX8_canByLengths_1 rfl ?_
  refine v_callVi hz lX8_183 (cX8_wordsOf_ok _ _ _ _ _ _ A hm s S h1) (by assumption) rfl rfl (Nat.le_of_ble_eq_true rfl) (by decide) ⟨Nat.zero_le _, Nat.zero_le _⟩ dX8_canByLengths_2 (fun r I2 q2 => ?_)
  obtain ⟨rfl, eIq2⟩ := q2
  rw [eIq2]
  refine v_aload_n hz dX8_canByLengths_5 rfl ?_
  refine v_bi (v := nI 12) hz dX8_canByLengths_6 (by decide) ?_
  refine v_callVi hz lX8_183 (cX8_wordsOf_ok _ _ _ _ _ _ A hm 12 T h2) (by assumption) rfl rfl (Nat.le_of_ble_eq_true rfl) (by decide) ⟨Nat.zero_le _, Nat.zero_le _⟩ dX8_canByLengths_8 (fun r I2 q8 => ?_)
  obtain ⟨rfl, eIq8⟩ := q8
  rw [eIq8]
  refine v_isub hz dX8_canByLengths_11 ?_
  refine v_callSi hz lX8_220 (cX8_size_ok _ _ _ _ _ _ _) rfl rfl (Nat.le_of_ble_eq_true rfl) (by decide) ⟨Nat.zero_le _, Nat.zero_le _⟩ dX8_canByLengths_12 (fun r I2 q12 => ?_)
  obtain ⟨rfl, eIq12⟩ := q12
  rw [eIq12]
  refine v_top (size_sub (by omega) (by omega)) ?_
  refine v_istore_n hz dX8_canByLengths_15 (by decide) rfl ?_
  refine v_aload_n hz dX8_canByLengths_16 rfl ?_
  refine v_iload_n hz dX8_canByLengths_17 rfl ?_
  refine v_callVi hz lX8_186 (cX8_tagsOf_ok _ _ _ _ _ _ A hm s S h1) (by assumption) rfl rfl (Nat.le_of_ble_eq_true rfl) (by decide) ⟨Nat.zero_le _, Nat.zero_le _⟩ dX8_canByLengths_18 (fun r I2 q18 => ?_)
  obtain ⟨rfl, eIq18⟩ := q18
  rw [eIq18]
  refine v_aload_n hz dX8_canByLengths_21 rfl ?_
  refine v_bi (v := nI 12) hz dX8_canByLengths_22 (by decide) ?_
  refine v_callVi hz lX8_186 (cX8_tagsOf_ok _ _ _ _ _ _ A hm 12 T h2) (by assumption) rfl rfl (Nat.le_of_ble_eq_true rfl) (by decide) ⟨Nat.zero_le _, Nat.zero_le _⟩ dX8_canByLengths_24 (fun r I2 q24 => ?_)
  obtain ⟨rfl, eIq24⟩ := q24
  rw [eIq24]
  refine v_isub hz dX8_canByLengths_27 ?_
  refine v_callSi hz lX8_220 (cX8_size_ok _ _ _ _ _ _ _) rfl rfl (Nat.le_of_ble_eq_true rfl) (by decide) ⟨Nat.zero_le _, Nat.zero_le _⟩ dX8_canByLengths_28 (fun r I2 q28 => ?_)
  obtain ⟨rfl, eIq28⟩ := q28
  rw [eIq28]
  refine v_top (size_sub (by omega) (by omega)) ?_
  have a1 : adf (wds S) (wds T) ≤ 16 := by unfold adf; omega
  have a2 : adf (S.1 - wds S) (T.1 - wds T) ≤ 16 := by unfold adf; omega
  have a3 : w * adf (S.1 - wds S) (T.1 - wds T) ≤ 20 * 16 := Nat.mul_le_mul w20 a2
  refine v_istore_n hz dX8_canByLengths_31 (by decide) rfl ?_
  refine v_bi (v := nI 10) hz dX8_canByLengths_32 (by decide) ?_
  refine v_iload_n hz dX8_canByLengths_34 rfl ?_
  first | with_reducible refine v_imulN hz dX8_canByLengths_35 ?_ | refine v_imul hz dX8_canByLengths_35 ?_
  refine v_aload_n hz dX8_canByLengths_36 rfl ?_
  refine v_getI hz fX8_28 (by assumption) dX8_canByLengths_37 ?_
  refine v_top hw.1 ?_
  refine v_iload_n hz dX8_canByLengths_40 rfl ?_
  first | with_reducible refine v_imulN hz dX8_canByLengths_41 ?_ | refine v_imul hz dX8_canByLengths_41 ?_
  first | with_reducible refine v_iaddN hz dX8_canByLengths_42 ?_ | refine v_iadd hz dX8_canByLengths_42 ?_
  refine v_aload_n hz dX8_canByLengths_43 rfl ?_
  refine v_iload_n hz dX8_canByLengths_44 rfl ?_
  refine v_callVi hz lX8_223 (cX8_roomOf_ok _ _ _ _ _ _ A hm s w bd S T hw hb hbd h1 h2 o1 o2) (by assumption) rfl rfl (Nat.le_of_ble_eq_true rfl) (by decide) ⟨Nat.zero_le _, Nat.zero_le _⟩ dX8_canByLengths_45 (fun r I1 h45 => ?_)
  obtain ⟨rfl, eIh45⟩ := h45
  rw [eIh45]
  first | with_reducible refine v_icmp_gtN hz 55 (by omega) (by omega) dX8_canByLengths_48 (by decide) (fun c48 => ?_) (fun c48 => ?_) | refine v_icmp_gt hz 55 dX8_canByLengths_48 (by decide) (fun c48 => ?_) (fun c48 => ?_)
  · refine v_ic (v := nI 0) hz dX8_canByLengths_55 (by decide) ?_
    exact v_zret hz hr dX8_canByLengths_56 (by first | exact Or.inl rfl | exact Or.inr rfl) (by first | exact ⟨(bz_t (by omega)).symm, rfl⟩ | exact ⟨(bz_f (by omega)).symm, rfl⟩)
  · refine v_ic (v := nI 1) hz dX8_canByLengths_51 (by decide) ?_
    refine v_goto hz 56 dX8_canByLengths_52 (by decide) ?_
    exact v_zret hz hr dX8_canByLengths_56 (by first | exact Or.inl rfl | exact Or.inr rfl) (by first | exact ⟨(bz_t (by omega)).symm, rfl⟩ | exact ⟨(bz_f (by omega)).symm, rfl⟩)
set_option maxHeartbeats 4000000 in
set_option maxRecDepth 100000 in
theorem cX8_canByGrams_ok (l : Launch) (g : Gz) (κ : Kz) (I : Iz) (R : Rz) (J : Jz) (A : Nat → Nat) (hm : LM κ R A) (s w bd : Nat) (S T : Sg) (hw : wt I A w) (hb : I (A 130) 10 = nI bd) (hbd : bd ≤ 1000) (h1 : msg I A s S) (h2 : msg I A 12 T) (o1 : okQ S) (o2 : okQ T) : Ct l mX8_canByGrams 0 0 g [.ref (A 130), .int (nI s)] κ I R J (Si κ R J (fun r I1 => r = cbG (grn S) (grn T) (shn S T) (rmO bd (cal w S + cal w T)) ∧ QF A I I1)) := by
  refine ct_of (by decide) (Nat.le_of_ble_eq_true rfl) ?_
  intro z hz hr hrc hrs
  have hz : Am z cX8_canByGrams RX8 4 5 := hz
  have hr : Rt z yX8_canByGrams (some .boolean) 0 0 _ := hr
  show V z 4 0 0 0 [(0, .ref (A 130)), (1, .int (nI s))] [] κ I R J
  have hk := hm.k
  have ho := hm.o
  have ca1 := cal_le (S := S) hw.2.2 h1.2.1
  have ca2 := cal_le (S := T) hw.2.2 h2.2.1
  have w20 := hw.2.2
  have g1 := o1.2.1
  have g2 := o2.2.1
  have rl := rmO_le (bd := bd) (show cal w S + cal w T ≤ 320 by omega)
  refine v_aload_n hz dX8_canByGrams_0 rfl ?_
  refine v_iload_n hz dX8_canByGrams_1 rfl ?_
  refine v_callVi hz lX8_189 (cX8_gramsOf_ok _ _ _ _ _ _ A hm s S h1) (by assumption) rfl rfl (Nat.le_of_ble_eq_true rfl) (by decide) ⟨Nat.zero_le _, Nat.zero_le _⟩ dX8_canByGrams_2 (fun r I2 q2 => ?_)
  obtain ⟨rfl, eIq2⟩ := q2
  rw [eIq2]
  refine v_istore_n hz dX8_canByGrams_5 (by decide) rfl ?_
  refine v_aload_n hz dX8_canByGrams_6 rfl ?_
  refine v_bi (v := nI 12) hz dX8_canByGrams_7 (by decide) ?_
  refine v_callVi hz lX8_189 (cX8_gramsOf_ok _ _ _ _ _ _ A hm 12 T h2) (by assumption) rfl rfl (Nat.le_of_ble_eq_true rfl) (by decide) ⟨Nat.zero_le _, Nat.zero_le _⟩ dX8_canByGrams_9 (fun r I2 q9 => ?_)
  obtain ⟨rfl, eIq9⟩ := q9
  rw [eIq9]
  refine v_istore_n hz dX8_canByGrams_12 (by decide) rfl ?_
  refine v_ic (v := nI 5) hz dX8_canByGrams_13 (by decide) ?_
  refine v_iload_n hz dX8_canByGrams_14 rfl ?_
  refine v_iload_n hz dX8_canByGrams_15 rfl ?_
  refine v_join2 24 (nI (max (grn S) (grn T))) (fun hj => ?_) ?_
  · first | with_reducible refine v_icmp_leN hz 23 (by omega) (by omega) dX8_canByGrams_16 (by decide) (fun c16 => ?_) (fun c16 => ?_) | refine v_icmp_le hz 23 dX8_canByGrams_16 (by decide) (fun c16 => ?_) (fun c16 => ?_)
    · refine v_iload_n hz dX8_canByGrams_23 rfl ?_
      exact v_top (by first | (rw [show max (grn S) (grn T) = grn S by omega]) | (rw [show max (grn S) (grn T) = grn T by omega])) hj
    · refine v_iload_n hz dX8_canByGrams_19 rfl ?_
      refine v_goto hz 24 dX8_canByGrams_20 (by decide) ?_
      exact v_top (by first | (rw [show max (grn S) (grn T) = grn S by omega]) | (rw [show max (grn S) (grn T) = grn T by omega])) hj
  refine v_aload_n hz dX8_canByGrams_24 rfl ?_
  refine v_iload_n hz dX8_canByGrams_25 rfl ?_
  refine v_bi (v := nI 12) hz dX8_canByGrams_26 (by decide) ?_
  refine v_callVi hz lX8_207 (cX8_sharedOf_ok _ _ _ _ _ _ A hm s 12 S T h1 h2 o1.1 o2.1) (by assumption) rfl rfl (Nat.le_of_ble_eq_true rfl) (by decide) ⟨Nat.zero_le _, Nat.zero_le _⟩ dX8_canByGrams_28 (fun r I2 q28 => ?_)
  obtain ⟨rfl, hF⟩ := q28
  have hQ := QF.of3 hm hF
  rw [shM_eq o1.1 o2.1]
  refine v_isub hz dX8_canByGrams_31 ?_
  refine v_imul hz dX8_canByGrams_32 ?_
  refine v_bi (v := nI 12) hz dX8_canByGrams_33 (by decide) ?_
  refine v_aload_n hz dX8_canByGrams_35 rfl ?_
  refine v_iload_n hz dX8_canByGrams_36 rfl ?_
  refine v_callVi hz lX8_223 (cX8_roomOf_ok _ _ _ _ _ _ A hm s w bd S T (hQ.wt hw) ((hQ.2 10 (by decide) (by decide) (by decide)).trans hb) hbd (hQ.msg hm h1) (hQ.msg hm h2) o1 o2) (by assumption) rfl rfl (Nat.le_of_ble_eq_true rfl) (by decide) ⟨Nat.zero_le _, Nat.zero_le _⟩ dX8_canByGrams_37 (fun r I3 q37 => ?_)
  obtain ⟨rfl, eIq37⟩ := q37
  rw [eIq37]
  first | with_reducible refine v_imulN hz dX8_canByGrams_40 ?_ | refine v_imul hz dX8_canByGrams_40 ?_
  refine v_icmp_gt hz 48 dX8_canByGrams_41 (by decide) (fun c41 => ?_) (fun c41 => ?_)
  · refine v_ic (v := nI 0) hz dX8_canByGrams_48 (by decide) ?_
    exact v_zret hz hr dX8_canByGrams_49 (by first | exact Or.inl rfl | exact Or.inr rfl) (by first | exact ⟨(bz_t (Int32.not_lt.mp c41)).symm, hQ⟩ | exact ⟨(bz_f (fun q => absurd c41 (Int32.not_lt.mpr q))).symm, hQ⟩)
  · refine v_ic (v := nI 1) hz dX8_canByGrams_44 (by decide) ?_
    refine v_goto hz 49 dX8_canByGrams_45 (by decide) ?_
    exact v_zret hz hr dX8_canByGrams_49 (by first | exact Or.inl rfl | exact Or.inr rfl) (by first | exact ⟨(bz_t (Int32.not_lt.mp c41)).symm, hQ⟩ | exact ⟨(bz_f (fun q => absurd c41 (Int32.not_lt.mpr q))).symm, hQ⟩)
set_option maxHeartbeats 4000000 in
set_option maxRecDepth 100000 in
theorem cX8_isMatch_ok (l : Launch) (g : Gz) (κ : Kz) (I : Iz) (R : Rz) (J : Jz) (A : Nat → Nat) (hm : LM κ R A) (s w bd : Nat) (S T : Sg) (hw : wt I A w) (hb : I (A 130) 10 = nI bd) (hbd : bd ≤ 1000) (h1 : msg I A s S) (h2 : msg I A 12 T) (o1 : okQ S) (o2 : okQ T) : Ct l mX8_isMatch 0 0 g [.ref (A 130), .int (nI s)] κ I R J (Si κ R J (fun r I1 => r = bz (bd ≤ sco w S T) ∧ Fm [145, 146, 147] A I I1)) := by
  refine ct_of (by decide) (Nat.le_of_ble_eq_true rfl) ?_
  intro z hz hr hrc hrs
  have hz : Am z cX8_isMatch RX8 2 7 := hz
  have hr : Rt z yX8_isMatch (some .boolean) 0 0 _ := hr
  show V z 2 0 0 0 [(0, .ref (A 130)), (1, .int (nI s))] [] κ I R J
  have hk := hm.k
  have ho := hm.o
  have sl : sco w S T ≤ 1000 := Nat.sub_le _ _
  refine v_aload_n hz dX8_isMatch_0 rfl ?_
  refine v_iload_n hz dX8_isMatch_1 rfl ?_
  refine v_bi (v := nI 12) hz dX8_isMatch_2 (by decide) ?_
  refine v_callVi hz lX8_204 (cX8_scoreOf_ok _ _ _ _ _ _ A hm w s 12 S T hw h1 h2 o1.1.1) (by assumption) rfl rfl (Nat.le_of_ble_eq_true rfl) (by decide) ⟨Nat.zero_le _, Nat.zero_le _⟩ dX8_isMatch_4 (fun r I2 q4 => ?_)
  obtain ⟨rfl, hF⟩ := q4
  have hQ := QF.of hm hF
  refine v_aload_n hz dX8_isMatch_7 rfl ?_
  refine v_getI hz fX8_32 (by assumption) dX8_isMatch_8 ?_
  refine v_top ((hQ.2 10 (by decide) (by decide) (by decide)).trans hb) ?_
  first | with_reducible refine v_icmp_ltN hz 18 (by omega) (by omega) dX8_isMatch_11 (by decide) (fun c11 => ?_) (fun c11 => ?_) | refine v_icmp_lt hz 18 dX8_isMatch_11 (by decide) (fun c11 => ?_) (fun c11 => ?_)
  · refine v_ic (v := nI 0) hz dX8_isMatch_18 (by decide) ?_
    exact v_zret hz hr dX8_isMatch_19 (by first | exact Or.inl rfl | exact Or.inr rfl) (by first | exact ⟨(bz_t (by omega)).symm, hF⟩ | exact ⟨(bz_f (by omega)).symm, hF⟩)
  · refine v_ic (v := nI 1) hz dX8_isMatch_14 (by decide) ?_
    refine v_goto hz 19 dX8_isMatch_15 (by decide) ?_
    exact v_zret hz hr dX8_isMatch_19 (by first | exact Or.inl rfl | exact Or.inr rfl) (by first | exact ⟨(bz_t (by omega)).symm, hF⟩ | exact ⟨(bz_f (by omega)).symm, hF⟩)
