set_option maxHeartbeats 4000000 in
set_option maxRecDepth 100000 in
theorem cX7_segment_ok (l : Launch) (g : Gz) (κ : Kz) (I : Iz) (R : Rz) (J : Jz) (A sb : Nat → Nat) (hn : LNg κ R A sb) (pg : Nat → Nat) (n kn : Nat) (ks : Nat → Sg) (tm : Nat → Int32) (T : Sg) (qa w bd : Nat) (te td : Int32) (hs : CS I A sb pg n kn ks tm T qa w bd te td) (x y : Int32) : Ct l mX7_segment 0 0 g [.ref (A 9), .int x, .int y] κ I R J (Si κ R J (fun r I1 => r = segR kn ks tm w x y ∧ I1 = I)) := by
  refine ct_of (by decide) (Nat.le_of_ble_eq_true rfl) ?_
  intro z hz hr hrc hrs
  have hz : Am z cX7_segment RX7 3 3 := hz
  have hr : Rt z yX7_segment (some .int) 0 0 _ := hr
  show V z 3 0 0 0 [(0, .ref (A 9)), (1, .int x), (2, .int y)] [] κ I R J
  obtain ⟨k9, o9, ⟨r0, r1, r2, r3, r4, r5, r6⟩, ⟨k10, n10, o10⟩, hsh, hgap, hp, hx, ha, hc, hf, hq⟩ := id hn
  have kp := hp.1
  have op := hp.2.2.2.2.1
  have op2 := hp.2.2.2.2.2
  have kx := hx.1
  have ka := ha.1
  have kc := hc.1
  have kf := hf.1
  have kq := hq.1
  obtain ⟨h0, ⟨h2, h3, h4⟩, ⟨h5, h6⟩, ⟨h8, h8a, h8b, h9, h10⟩, ⟨h11, h12⟩, h13, ⟨h14, h15⟩⟩ := id hs
  refine v_aload_n hz dX7_segment_0 rfl ?_
  refine v_iload_n hz dX7_segment_1 rfl ?_
  refine v_callVi hz lX7_108 (cX7_isKept_ok _ _ _ _ _ _ A sb hn kn x h3) (by assumption) rfl rfl (Nat.le_of_ble_eq_true rfl) (by decide) ⟨Nat.zero_le _, Nat.zero_le _⟩ dX7_segment_2 (fun r I9 qk => ?_)
  obtain ⟨rfl, eIqk⟩ := qk
  rw [eIqk]
  with_reducible refine v_if_neB hz 12 dX7_segment_5 (by decide) (fun c5 => ?_) (fun c5 => ?_)
  · obtain ⟨s, rfl, hsk⟩ := kpt_of (by omega) c5
    obtain ⟨ra, loa, hia, ga⟩ := hsh s (by omega)
    obtain ⟨ka, oa, ⟨ra0, ka1, na1, oa1⟩, -, ra8⟩ := id ga
    obtain ⟨hga, hta⟩ := h4 s (by omega)
    obtain ⟨⟨ca1, ca2, ca3, ca8⟩, Gra, ca4, ca5⟩ := id hga
    refine v_iload_n hz dX7_segment_12 rfl ?_
    refine v_bi (v := nI 6) hz dX7_segment_13 (by decide) ?_
    refine v_callSi hz lX7_124 (cX7_isWithin_ok _ _ _ _ _ _ _ _) rfl rfl (Nat.le_of_ble_eq_true rfl) (by decide) ⟨Nat.zero_le _, Nat.zero_le _⟩ dX7_segment_15 (fun r I9 qw => ?_)
    obtain ⟨rfl, eIqw⟩ := qw
    rw [eIqw]
    with_reducible refine v_if_neB hz 25 dX7_segment_18 (by decide) (fun c18 => ?_) (fun c18 => ?_)
    · obtain ⟨v, rfl, hv1⟩ := kpt_of (by omega) c18
      refine v_aload_n hz dX7_segment_25 rfl ?_
      refine v_getR hz fX7_18 (by assumption) (by assumption) dX7_segment_26 ?_
      refine v_iload_n hz dX7_segment_29 rfl ?_
      refine v_aaldN hz (by omega) (by assumption) (by omega) (by decide) ra dX7_segment_30 ?_
      refine v_iload_n hz dX7_segment_31 rfl ?_
      refine v_aload_n hz dX7_segment_32 rfl ?_
      refine v_getI hz fX7_55 (by assumption) dX7_segment_33 ?_
      refine v_top h8 ?_
      refine v_callVi hz lX7_128 (cX5_tell_ok _ _ _ _ _ _ A (sb s) ga w v (ks s) (tm s) hv1 ca2 ca3 ca4.2.1 hta) (by assumption) rfl rfl (Nat.le_of_ble_eq_true rfl) (by decide) ⟨Nat.zero_le _, Nat.zero_le _⟩ dX7_segment_36 (fun r I2 q36 => ?_)
      obtain ⟨rfl, eIq36⟩ := q36
      rw [eIq36]
      exact v_iret hz hr dX7_segment_39 ⟨by unfold segR; rw [if_pos c5, if_pos c18, nI_clamp (by omega), nI_clamp (by omega)], rfl⟩
    · refine v_si (v := (-1002)) hz dX7_segment_21 (by decide) ?_
      exact v_iret hz hr dX7_segment_24 ⟨by unfold segR; rw [if_pos c5, if_neg c18], rfl⟩
  · refine v_si (v := (-1001)) hz dX7_segment_8 (by decide) ?_
    exact v_iret hz hr dX7_segment_11 ⟨by unfold segR; rw [if_neg c5], rfl⟩
set_option maxHeartbeats 4000000 in
set_option maxRecDepth 100000 in
theorem cX7_isSignOfKept_ok (l : Launch) (g : Gz) (κ : Kz) (I : Iz) (R : Rz) (J : Jz) (A sb : Nat → Nat) (hn : LNg κ R A sb) (pg : Nat → Nat) (n kn : Nat) (ks : Nat → Sg) (tm : Nat → Int32) (T : Sg) (qa w bd : Nat) (te td : Int32) (hs : CS I A sb pg n kn ks tm T qa w bd te td) (x y : Int32) : Ct l mX7_isSignOfKept 0 0 g [.ref (A 9), .int x, .int y] κ I R J (Si κ R J (fun r I1 => r = bz ((0 ≤ x ∧ x < nI kn) ∧ (0 ≤ y ∧ y < nI (ks x.toNatClampNeg).1)) ∧ I1 = I)) := by
  refine ct_of (by decide) (Nat.le_of_ble_eq_true rfl) ?_
  intro z hz hr hrc hrs
  have hz : Am z cX7_isSignOfKept RX7 3 2 := hz
  have hr : Rt z yX7_isSignOfKept (some .boolean) 0 0 _ := hr
  show V z 3 0 0 0 [(0, .ref (A 9)), (1, .int x), (2, .int y)] [] κ I R J
  obtain ⟨k9, o9, ⟨r0, r1, r2, r3, r4, r5, r6⟩, ⟨k10, n10, o10⟩, hsh, hgap, hp, hx, ha, hc, hf, hq⟩ := id hn
  have kp := hp.1
  have op := hp.2.2.2.2.1
  have op2 := hp.2.2.2.2.2
  have kx := hx.1
  have ka := ha.1
  have kc := hc.1
  have kf := hf.1
  have kq := hq.1
  obtain ⟨h0, ⟨h2, h3, h4⟩, ⟨h5, h6⟩, ⟨h8, h8a, h8b, h9, h10⟩, ⟨h11, h12⟩, h13, ⟨h14, h15⟩⟩ := id hs
  refine v_aload_n hz dX7_isSignOfKept_0 rfl ?_
  refine v_iload_n hz dX7_isSignOfKept_1 rfl ?_
  refine v_callVi hz lX7_108 (cX7_isKept_ok _ _ _ _ _ _ A sb hn kn x h3) (by assumption) rfl rfl (Nat.le_of_ble_eq_true rfl) (by decide) ⟨Nat.zero_le _, Nat.zero_le _⟩ dX7_isSignOfKept_2 (fun r I9 qk => ?_)
  obtain ⟨rfl, eIqk⟩ := qk
  rw [eIqk]
  with_reducible refine v_if_eqB hz 28 dX7_isSignOfKept_5 (by decide) (fun c5 => ?_) (fun c5 => ?_)
  · refine v_ic (v := nI 0) hz dX7_isSignOfKept_28 (by decide) ?_
    exact v_zret hz hr dX7_isSignOfKept_29 (by first | exact Or.inl rfl | exact Or.inr rfl | exact bz_01) (by
          first
          | exact ⟨(bz_f (fun q => c5 q.1)).symm, rfl⟩
          | exact ⟨(bz_t ⟨c5, by rw [hcl]; exact c21⟩).symm, rfl⟩
          | exact ⟨(bz_f (fun q => c21 (by have := q.2; rw [hcl] at this; exact this))).symm, rfl⟩)
  · obtain ⟨s, rfl, hsk⟩ := kpt_of (by omega) c5
    have hcl : (nI s).toNatClampNeg = s := nI_clamp (by omega)
    obtain ⟨ra, loa, hia, ga⟩ := hsh s (by omega)
    obtain ⟨ka, oa, ⟨ra0, ka1, na1, oa1⟩, -, ra8⟩ := id ga
    obtain ⟨hga, hta⟩ := h4 s (by omega)
    obtain ⟨⟨ca1, ca2, ca3, ca8⟩, Gra, ca4, ca5⟩ := id hga
    refine v_iload_n hz dX7_isSignOfKept_8 rfl ?_
    refine v_aload_n hz dX7_isSignOfKept_9 rfl ?_
    refine v_getR hz fX7_18 (by assumption) (by assumption) dX7_isSignOfKept_10 ?_
    refine v_iload_n hz dX7_isSignOfKept_13 rfl ?_
    refine v_aaldN hz (by omega) (by assumption) (by omega) (by decide) ra dX7_isSignOfKept_14 ?_
    refine v_getI hz fX7_121 (by assumption) dX7_isSignOfKept_15 ?_
    refine v_top ca2 ?_
    refine v_callSi hz lX7_124 (cX7_isWithin_ok _ _ _ _ _ _ _ _) rfl rfl (Nat.le_of_ble_eq_true rfl) (by decide) ⟨Nat.zero_le _, Nat.zero_le _⟩ dX7_isSignOfKept_18 (fun r I9 qw => ?_)
    obtain ⟨rfl, eIqw⟩ := qw
    rw [eIqw]
    with_reducible refine v_if_eqB hz 28 dX7_isSignOfKept_21 (by decide) (fun c21 => ?_) (fun c21 => ?_)
    · refine v_ic (v := nI 0) hz dX7_isSignOfKept_28 (by decide) ?_
      exact v_zret hz hr dX7_isSignOfKept_29 (by first | exact Or.inl rfl | exact Or.inr rfl | exact bz_01) (by
            first
            | exact ⟨(bz_f (fun q => c5 q.1)).symm, rfl⟩
            | exact ⟨(bz_t ⟨c5, by rw [hcl]; exact c21⟩).symm, rfl⟩
            | exact ⟨(bz_f (fun q => c21 (by have := q.2; rw [hcl] at this; exact this))).symm, rfl⟩)
    · refine v_ic (v := nI 1) hz dX7_isSignOfKept_24 (by decide) ?_
      refine v_goto hz 29 dX7_isSignOfKept_25 (by decide) ?_
      exact v_zret hz hr dX7_isSignOfKept_29 (by first | exact Or.inl rfl | exact Or.inr rfl | exact bz_01) (by
            first
            | exact ⟨(bz_f (fun q => c5 q.1)).symm, rfl⟩
            | exact ⟨(bz_t ⟨c5, by rw [hcl]; exact c21⟩).symm, rfl⟩
            | exact ⟨(bz_f (fun q => c21 (by have := q.2; rw [hcl] at this; exact this))).symm, rfl⟩)
set_option maxHeartbeats 4000000 in
set_option maxRecDepth 100000 in
theorem cX7_sign_ok (l : Launch) (g : Gz) (κ : Kz) (I : Iz) (R : Rz) (J : Jz) (A sb : Nat → Nat) (hn : LNg κ R A sb) (pg : Nat → Nat) (n kn : Nat) (ks : Nat → Sg) (tm : Nat → Int32) (T : Sg) (qa w bd : Nat) (te td : Int32) (hs : CS I A sb pg n kn ks tm T qa w bd te td) (x y v : Int32) : Ct l mX7_sign 0 0 g [.ref (A 9), .int x, .int y, .int v] κ I R J (Si κ R J (fun r I1 => r = sgnR kn ks x y v ∧ I1 = I)) := by
  refine ct_of (by decide) (Nat.le_of_ble_eq_true rfl) ?_
  intro z hz hr hrc hrs
  have hz : Am z cX7_sign RX7 4 3 := hz
  have hr : Rt z yX7_sign (some .int) 0 0 _ := hr
  show V z 4 0 0 0 [(0, .ref (A 9)), (1, .int x), (2, .int y), (3, .int v)] [] κ I R J
  obtain ⟨k9, o9, ⟨r0, r1, r2, r3, r4, r5, r6⟩, ⟨k10, n10, o10⟩, hsh, hgap, hp, hx, ha, hc, hf, hq⟩ := id hn
  have kp := hp.1
  have op := hp.2.2.2.2.1
  have op2 := hp.2.2.2.2.2
  have kx := hx.1
  have ka := ha.1
  have kc := hc.1
  have kf := hf.1
  have kq := hq.1
  obtain ⟨h0, ⟨h2, h3, h4⟩, ⟨h5, h6⟩, ⟨h8, h8a, h8b, h9, h10⟩, ⟨h11, h12⟩, h13, ⟨h14, h15⟩⟩ := id hs
  refine v_aload_n hz dX7_sign_0 rfl ?_
  refine v_iload_n hz dX7_sign_1 rfl ?_
  refine v_iload_n hz dX7_sign_2 rfl ?_
  refine v_callVi hz lX7_132 (cX7_isSignOfKept_ok _ _ _ _ _ _ A sb hn pg n kn ks tm T qa w bd te td hs x y) (by assumption) rfl rfl (Nat.le_of_ble_eq_true rfl) (by decide) ⟨Nat.zero_le _, Nat.zero_le _⟩ dX7_sign_3 (fun r I9 qs => ?_)
  obtain ⟨rfl, eIqs⟩ := qs
  rw [eIqs]
  with_reducible refine v_if_neB hz 13 dX7_sign_6 (by decide) (fun c6 => ?_) (fun c6 => ?_)
  · obtain ⟨s, rfl, hks⟩ := kpt_of (by omega) c6.1
    have hcls : (nI s).toNatClampNeg = s := nI_clamp (by omega)
    obtain ⟨ra, loa, hia, ga⟩ := hsh s (by omega)
    obtain ⟨ka, oa, ⟨ra0, ka1, na1, oa1⟩, -, ra8⟩ := id ga
    obtain ⟨hga, hta⟩ := h4 s (by omega)
    obtain ⟨⟨ca1, ca2, ca3, ca8⟩, Gra, ca4, ca5⟩ := id hga
    have c6b := c6.2
    rw [hcls] at c6b
    obtain ⟨t, rfl, hkt⟩ := kpt_of (by omega) c6b
    have hclt : (nI t).toNatClampNeg = t := nI_clamp (by omega)
    obtain ⟨rsa, lsa⟩ := ra8 t (by omega)
    have ksa := lsa.1
    have csa := ca8 t hkt
    refine v_iload_n hz dX7_sign_13 rfl ?_
    refine v_bi (v := nI 14) hz dX7_sign_14 (by decide) ?_
    refine v_callSi hz lX7_124 (cX7_isWithin_ok _ _ _ _ _ _ _ _) rfl rfl (Nat.le_of_ble_eq_true rfl) (by decide) ⟨Nat.zero_le _, Nat.zero_le _⟩ dX7_sign_16 (fun r I9 qw => ?_)
    obtain ⟨rfl, eIqw⟩ := qw
    rw [eIqw]
    with_reducible refine v_if_neB hz 26 dX7_sign_19 (by decide) (fun c19 => ?_) (fun c19 => ?_)
    · obtain ⟨u, rfl, hv1⟩ := kpt_of (by omega) c19
      refine v_aload_n hz dX7_sign_26 rfl ?_
      refine v_getR hz fX7_18 (by assumption) (by assumption) dX7_sign_27 ?_
      refine v_iload_n hz dX7_sign_30 rfl ?_
      refine v_aaldN hz (by omega) (by assumption) (by omega) (by decide) ra dX7_sign_31 ?_
      refine v_getR hz fX7_135 (by assumption) (by assumption) dX7_sign_32 ?_
      refine v_iload_n hz dX7_sign_35 rfl ?_
      refine v_aaldN hz (by omega) (by assumption) (by omega) (by decide) rsa dX7_sign_36 ?_
      refine v_iload_n hz dX7_sign_37 rfl ?_
      refine v_callVi hz lX7_139 (cX6_tell_ok _ _ _ _ _ _ A (sb s + 3 + 2 * t) lsa _ _ u _ csa hv1) (by assumption) rfl rfl (Nat.le_of_ble_eq_true rfl) (by decide) ⟨Nat.zero_le _, Nat.zero_le _⟩ dX7_sign_38 (fun r I2 q38 => ?_)
      obtain ⟨rfl, eIq38⟩ := q38
      rw [eIq38]
      exact v_iret hz hr dX7_sign_41 ⟨by unfold sgnR; rw [if_pos c6, if_pos c19, hcls, hclt, nI_clamp (by omega)]; rfl, rfl⟩
    · refine v_si (v := (-1002)) hz dX7_sign_22 (by decide) ?_
      exact v_iret hz hr dX7_sign_25 ⟨by unfold sgnR; rw [if_pos c6, if_neg c19], rfl⟩
  · refine v_si (v := (-1001)) hz dX7_sign_9 (by decide) ?_
    exact v_iret hz hr dX7_sign_12 ⟨by unfold sgnR; rw [if_neg c6], rfl⟩
set_option maxHeartbeats 4000000 in
set_option maxRecDepth 100000 in
theorem cX7_alike_ok (l : Launch) (g : Gz) (κ : Kz) (I : Iz) (R : Rz) (J : Jz) (A sb : Nat → Nat) (hn : LNg κ R A sb) (pg : Nat → Nat) (n kn : Nat) (ks : Nat → Sg) (tm : Nat → Int32) (T : Sg) (qa w bd : Nat) (te td : Int32) (hs : CS I A sb pg n kn ks tm T qa w bd te td) (a i b j : Int32) : Ct l mX7_alike 0 0 g [.ref (A 9), .int a, .int i, .int b, .int j] κ I R J (Si κ R J (fun r I1 => r = alkR kn ks a i b j ∧ Ft κ cT I I1 ∧ CS I1 A sb pg n kn ks tm T qa w bd te td)) := by
  refine ct_of (by decide) (Nat.le_of_ble_eq_true rfl) ?_
  intro z hz hr hrc hrs
  have hz : Am z cX7_alike RX7 7 3 := hz
  have hr : Rt z yX7_alike (some .int) 0 0 _ := hr
  show V z 7 0 0 0 [(0, .ref (A 9)), (1, .int a), (2, .int i), (3, .int b), (4, .int j)] [] κ I R J
  obtain ⟨k9, o9, ⟨r0, r1, r2, r3, r4, r5, r6⟩, ⟨k10, n10, o10⟩, hsh, hgap, hp, hx, ha, hc, hf, hq⟩ := id hn
  have kp := hp.1
  have op := hp.2.2.2.2.1
  have op2 := hp.2.2.2.2.2
  have kx := hx.1
  have ka := ha.1
  have kc := hc.1
  have kf := hf.1
  have kq := hq.1
  obtain ⟨h0, ⟨h2, h3, h4⟩, ⟨h5, h6⟩, ⟨h8, h8a, h8b, h9, h10⟩, ⟨h11, h12⟩, h13, ⟨h14, h15⟩⟩ := id hs
  refine v_aload_n hz dX7_alike_0 rfl ?_
  refine v_iload_n hz dX7_alike_1 rfl ?_
  refine v_iload_n hz dX7_alike_2 rfl ?_
  refine v_callVi hz lX7_132 (cX7_isSignOfKept_ok _ _ _ _ _ _ A sb hn pg n kn ks tm T qa w bd te td hs a i) (by assumption) rfl rfl (Nat.le_of_ble_eq_true rfl) (by decide) ⟨Nat.zero_le _, Nat.zero_le _⟩ dX7_alike_3 (fun r I9 qs => ?_)
  obtain ⟨rfl, eIqs⟩ := qs
  rw [eIqs]
  with_reducible refine v_if_eqB hz 19 dX7_alike_6 (by decide) (fun c6 => ?_) (fun c6 => ?_)
  · refine v_si (v := (-1001)) hz dX7_alike_19 (by decide) ?_
    exact v_iret hz hr dX7_alike_22 (by
          refine ⟨?_, Ft.rf, hs⟩
          unfold alkR
          first
          | exact (if_neg (fun q => c6 q.1)).symm
          | exact (if_neg (fun q => c16 q.2)).symm)
  · refine v_aload_n hz dX7_alike_9 rfl ?_
    refine v_iload_n hz dX7_alike_10 rfl ?_
    refine v_iload hz dX7_alike_11 rfl ?_
    refine v_callVi hz lX7_132 (cX7_isSignOfKept_ok _ _ _ _ _ _ A sb hn pg n kn ks tm T qa w bd te td hs b j) (by assumption) rfl rfl (Nat.le_of_ble_eq_true rfl) (by decide) ⟨Nat.zero_le _, Nat.zero_le _⟩ dX7_alike_13 (fun r I9 qs => ?_)
    obtain ⟨rfl, eIqs⟩ := qs
    rw [eIqs]
    with_reducible refine v_if_neB hz 23 dX7_alike_16 (by decide) (fun c16 => ?_) (fun c16 => ?_)
    · obtain ⟨s, rfl, hks⟩ := kpt_of (by omega) c6.1
      have hcls : (nI s).toNatClampNeg = s := nI_clamp (by omega)
      obtain ⟨ra, loa, hia, ga⟩ := hsh s (by omega)
      obtain ⟨ka, oa, ⟨ra0, ka1, na1, oa1⟩, -, ra8⟩ := id ga
      obtain ⟨hga, hta⟩ := h4 s (by omega)
      obtain ⟨⟨ca1, ca2, ca3, ca8⟩, Gra, ca4, ca5⟩ := id hga
      have c6b := c6.2
      rw [hcls] at c6b
      obtain ⟨t, rfl, hkt⟩ := kpt_of (by omega) c6b
      have hclt : (nI t).toNatClampNeg = t := nI_clamp (by omega)
      obtain ⟨rsa, lsa⟩ := ra8 t (by omega)
      have ksa := lsa.1
      have csa := ca8 t hkt
      obtain ⟨u, rfl, hku⟩ := kpt_of (by omega) c16.1
      have hclu : (nI u).toNatClampNeg = u := nI_clamp (by omega)
      obtain ⟨rb, lob, hib, gb⟩ := hsh u (by omega)
      obtain ⟨kb, ob, ⟨rb0, kb1, nb1, ob1⟩, -, rb8⟩ := id gb
      obtain ⟨hgb, htb⟩ := h4 u (by omega)
      obtain ⟨⟨cb1, cb2, cb3, cb8⟩, Grb, cb4, cb5⟩ := id hgb
      have c16b := c16.2
      rw [hclu] at c16b
      obtain ⟨v, rfl, hkv⟩ := kpt_of (by omega) c16b
      have hclv : (nI v).toNatClampNeg = v := nI_clamp (by omega)
      obtain ⟨rsb, lsb⟩ := rb8 v (by omega)
      have ksb := lsb.1
      have csb := cb8 v hkv
      refine v_aload_n hz dX7_alike_23 rfl ?_
      refine v_getR hz fX7_18 (by assumption) (by assumption) dX7_alike_24 ?_
      refine v_iload_n hz dX7_alike_27 rfl ?_
      refine v_aaldN hz (by omega) (by assumption) (by omega) (by decide) ra dX7_alike_28 ?_
      refine v_getR hz fX7_135 (by assumption) (by assumption) dX7_alike_29 ?_
      refine v_iload_n hz dX7_alike_32 rfl ?_
      refine v_aaldN hz (by omega) (by assumption) (by omega) (by decide) rsa dX7_alike_33 ?_
      refine v_astore hz dX7_alike_34 (by decide) rfl ?_
      refine v_aload_n hz dX7_alike_36 rfl ?_
      refine v_getR hz fX7_18 (by assumption) (by assumption) dX7_alike_37 ?_
      refine v_iload_n hz dX7_alike_40 rfl ?_
      refine v_aaldN hz (by omega) (by assumption) (by omega) (by decide) rb dX7_alike_41 ?_
      refine v_getR hz fX7_135 (by assumption) (by assumption) dX7_alike_42 ?_
      refine v_iload hz dX7_alike_45 rfl ?_
      refine v_aaldN hz (by omega) (by assumption) (by omega) (by decide) rsb dX7_alike_47 ?_
      refine v_astore hz dX7_alike_48 (by decide) rfl ?_
      refine v_aload hz dX7_alike_50 rfl ?_
      refine v_callVi hz lX7_144 (cX6_isWord_ok _ _ _ _ _ _ A (sb s + 3 + 2 * t) lsa _ csa.1 csa.2.1) (by assumption) rfl rfl (Nat.le_of_ble_eq_true rfl) (by decide) ⟨Nat.zero_le _, Nat.zero_le _⟩ dX7_alike_52 (fun r I9 qi => ?_)
      obtain ⟨rfl, eIqi⟩ := qi
      rw [eIqi]
      with_reducible refine v_if_eqB hz 66 dX7_alike_55 (by decide) (fun c55 => ?_) (fun c55 => ?_)
      · refine v_ic (v := (-1)) hz dX7_alike_66 (by decide) ?_
        exact v_iret hz hr dX7_alike_67 (by
              refine ⟨?_, Ft.rf, hs⟩
              unfold alkR
              rw [if_pos ⟨c6, c16⟩, hcls, hclt, hclu, hclv]
              first
              | exact (if_neg (fun q => c55 q.1)).symm
              | exact (if_neg (fun q => c63 q.2)).symm)
      · refine v_aload hz dX7_alike_58 rfl ?_
        refine v_callVi hz lX7_144 (cX6_isWord_ok _ _ _ _ _ _ A (sb u + 3 + 2 * v) lsb _ csb.1 csb.2.1) (by assumption) rfl rfl (Nat.le_of_ble_eq_true rfl) (by decide) ⟨Nat.zero_le _, Nat.zero_le _⟩ dX7_alike_60 (fun r I9 qi => ?_)
        obtain ⟨rfl, eIqi⟩ := qi
        rw [eIqi]
        with_reducible refine v_if_neB hz 68 dX7_alike_63 (by decide) (fun c63 => ?_) (fun c63 => ?_)
        · refine v_aload_n hz dX7_alike_68 rfl ?_
          refine v_getR hz fX7_37 (by assumption) (by assumption) dX7_alike_69 ?_
          refine v_aload hz dX7_alike_72 rfl ?_
          refine v_aload hz dX7_alike_74 rfl ?_
          refine v_callVi hz lX7_147 (cX0_alikeOfWords_ok _ _ _ _ _ _ A ha (sb s + 3 + 2 * t) (sb u + 3 + 2 * v) _ _ _ _ _ _ lsa lsb (by omega) (by omega) csa csb (by omega)) (by assumption) rfl rfl (Nat.le_of_ble_eq_true rfl) (by decide) ⟨Nat.zero_le _, Nat.zero_le _⟩ dX7_alike_76 (fun r I2 q76 => ?_)
          exact v_iret hz hr dX7_alike_79 (by
                obtain ⟨e1, e2⟩ := q76
                have hF := e2.ft ha
                refine ⟨?_, hF.wid (fun t ht => Or.inl (by omega)), CS.ft hn (hF.wid (fun t ht => Or.inl (Or.inl ht))) hs⟩
                rw [e1]
                unfold alkR
                rw [if_pos ⟨c6, c16⟩, hcls, hclt, hclu, hclv, if_pos ⟨c55, c63⟩])
        · refine v_ic (v := (-1)) hz dX7_alike_66 (by decide) ?_
          exact v_iret hz hr dX7_alike_67 (by
                refine ⟨?_, Ft.rf, hs⟩
                unfold alkR
                rw [if_pos ⟨c6, c16⟩, hcls, hclt, hclu, hclv]
                first
                | exact (if_neg (fun q => c55 q.1)).symm
                | exact (if_neg (fun q => c63 q.2)).symm)
    · refine v_si (v := (-1001)) hz dX7_alike_19 (by decide) ?_
      exact v_iret hz hr dX7_alike_22 (by
            refine ⟨?_, Ft.rf, hs⟩
            unfold alkR
            first
            | exact (if_neg (fun q => c6 q.1)).symm
            | exact (if_neg (fun q => c16 q.2)).symm)
set_option maxHeartbeats 4000000 in
set_option maxRecDepth 100000 in
theorem cX1_tell5_ok (l : Launch) (g : Gz) (κ : Kz) (I : Iz) (R : Rz) (J : Jz) (A : Nat → Nat) (b : Nat) (hg : LCg κ R A b) (v : Nat) (hv : v < 5) : Ct l mX1_tell 0 0 g [.ref (A b), .int (nI v)] κ I R J (Si κ R J (fun r I1 => r = I (A b) (cmf v) ∧ I1 = I)) := by
  refine ct_of (by decide) (Nat.le_of_ble_eq_true rfl) ?_
  intro z hz hr hrc hrs
  have hz : Am z cX1_tell RX1 2 0 := hz
  have hr : Rt z yX1_tell (some .int) 0 0 _ := hr
  show V z 2 0 0 0 [(0, .ref (A b)), (1, .int (nI v))] [] κ I R J
  have hk := hg.1
  refine v_iload_n hz dX1_tell_0 rfl ?_
  refine v_tsw hz 0 9 [56, 61, 66, 71, 76, 81, 86, 99, 112, 125] 130 dX1_tell_1 ⟨rfl, rfl⟩ (by decide) (by decide) (by decide) (fun j1 hj1_1 hj2_1 c1 => ?_) (fun c1 => ?_)
  · rcases (show j1 = 0 ∨ j1 = 1 ∨ j1 = 2 ∨ j1 = 3 ∨ j1 = 4 ∨ j1 = 5 ∨ j1 = 6 ∨ j1 = 7 ∨ j1 = 8 ∨ j1 = 9 by omega) with rfl | rfl | rfl | rfl | rfl | rfl | rfl | rfl | rfl | rfl
    · refine v_pc (pc' := 56) rfl ?_
      have e0 := (nI_eq (by omega) (by decide)).mp c1
      refine v_aload_n hz dX1_tell_56 rfl ?_
      refine v_getI hz fX1_34 (by assumption) dX1_tell_57 ?_
      exact v_iret hz hr dX1_tell_60 ⟨by subst e0; rfl, rfl⟩
    · refine v_pc (pc' := 61) rfl ?_
      have e0 := (nI_eq (by omega) (by decide)).mp c1
      refine v_aload_n hz dX1_tell_61 rfl ?_
      refine v_getI hz fX1_31 (by assumption) dX1_tell_62 ?_
      exact v_iret hz hr dX1_tell_65 ⟨by subst e0; rfl, rfl⟩
    · refine v_pc (pc' := 66) rfl ?_
      have e0 := (nI_eq (by omega) (by decide)).mp c1
      refine v_aload_n hz dX1_tell_66 rfl ?_
      refine v_getI hz fX1_37 (by assumption) dX1_tell_67 ?_
      exact v_iret hz hr dX1_tell_70 ⟨by subst e0; rfl, rfl⟩
    · refine v_pc (pc' := 71) rfl ?_
      have e0 := (nI_eq (by omega) (by decide)).mp c1
      refine v_aload_n hz dX1_tell_71 rfl ?_
      refine v_getI hz fX1_69 (by assumption) dX1_tell_72 ?_
      exact v_iret hz hr dX1_tell_75 ⟨by subst e0; rfl, rfl⟩
    · refine v_pc (pc' := 76) rfl ?_
      have e0 := (nI_eq (by omega) (by decide)).mp c1
      refine v_aload_n hz dX1_tell_76 rfl ?_
      refine v_getI hz fX1_24 (by assumption) dX1_tell_77 ?_
      exact v_iret hz hr dX1_tell_80 ⟨by subst e0; rfl, rfl⟩
    · refine v_pc (pc' := 81) rfl ?_
      have e0 := (nI_eq (by omega) (by decide)).mp c1
      refine v_aload_n hz dX1_tell_81 rfl ?_
      refine v_getI hz fX1_40 (by assumption) dX1_tell_82 ?_
      exact v_iret hz hr dX1_tell_85 ⟨by subst e0; rfl, rfl⟩
    · refine v_pc (pc' := 86) rfl ?_
      have e0 := (nI_eq (by omega) (by decide)).mp c1
      refine v_aload_n hz dX1_tell_86 rfl ?_
      refine v_getI hz fX1_58 (by assumption) dX1_tell_87 ?_
      first | with_reducible refine v_if_eqB hz 97 dX1_tell_90 (by decide) (fun c90 => ?_) (fun c90 => ?_) | with_reducible refine v_if_eqN hz 97 (by omega) dX1_tell_90 (by decide) (fun c90 => ?_) (fun c90 => ?_) | refine v_if_eq hz 97 dX1_tell_90 (by decide) (fun c90 => ?_) (fun c90 => ?_)
      · refine v_ic (v := nI 0) hz dX1_tell_97 (by decide) ?_
        exact absurd e0 (by omega)
      · refine v_ic (v := nI 1) hz dX1_tell_93 (by decide) ?_
        refine v_goto hz 98 dX1_tell_94 (by decide) ?_
        exact absurd e0 (by omega)
    · refine v_pc (pc' := 99) rfl ?_
      have e0 := (nI_eq (by omega) (by decide)).mp c1
      refine v_aload_n hz dX1_tell_99 rfl ?_
      refine v_getI hz fX1_72 (by assumption) dX1_tell_100 ?_
      first | with_reducible refine v_if_eqB hz 110 dX1_tell_103 (by decide) (fun c103 => ?_) (fun c103 => ?_) | with_reducible refine v_if_eqN hz 110 (by omega) dX1_tell_103 (by decide) (fun c103 => ?_) (fun c103 => ?_) | refine v_if_eq hz 110 dX1_tell_103 (by decide) (fun c103 => ?_) (fun c103 => ?_)
      · refine v_ic (v := nI 0) hz dX1_tell_110 (by decide) ?_
        exact absurd e0 (by omega)
      · refine v_ic (v := nI 1) hz dX1_tell_106 (by decide) ?_
        refine v_goto hz 111 dX1_tell_107 (by decide) ?_
        exact absurd e0 (by omega)
    · refine v_pc (pc' := 112) rfl ?_
      have e0 := (nI_eq (by omega) (by decide)).mp c1
      refine v_aload_n hz dX1_tell_112 rfl ?_
      refine v_getI hz fX1_75 (by assumption) dX1_tell_113 ?_
      first | with_reducible refine v_if_eqB hz 123 dX1_tell_116 (by decide) (fun c116 => ?_) (fun c116 => ?_) | with_reducible refine v_if_eqN hz 123 (by omega) dX1_tell_116 (by decide) (fun c116 => ?_) (fun c116 => ?_) | refine v_if_eq hz 123 dX1_tell_116 (by decide) (fun c116 => ?_) (fun c116 => ?_)
      · refine v_ic (v := nI 0) hz dX1_tell_123 (by decide) ?_
        exact absurd e0 (by omega)
      · refine v_ic (v := nI 1) hz dX1_tell_119 (by decide) ?_
        refine v_goto hz 124 dX1_tell_120 (by decide) ?_
        exact absurd e0 (by omega)
    · refine v_pc (pc' := 125) rfl ?_
      have e0 := (nI_eq (by omega) (by decide)).mp c1
      refine v_aload_n hz dX1_tell_125 rfl ?_
      refine v_getI hz fX1_28 (by assumption) dX1_tell_126 ?_
      exact v_iret hz hr dX1_tell_129 ⟨by subst e0; rfl, rfl⟩
  · exact absurd ⟨v, by omega, by omega, rfl⟩ c1
theorem tw_tell {I : Iz} {A : Nat → Nat} {b w v : Nat} {S T : Sg} (h : cmpC I A b w S T) (hv : v < 5) : I (A b) (cmf v) = twT w S T v := by
  obtain ⟨a1, a2, a3, a4, k, a5⟩ := h
  rcases (show v = 0 ∨ v = 1 ∨ v = 2 ∨ v = 3 ∨ v = 4 by omega) with rfl | rfl | rfl | rfl | rfl
  · exact a1
  · exact a2
  · exact a4
  · exact a3
  · show I (A b) 7 = nI (nsf w S T)
    rw [nsf_eq a5.1]; exact a5.2.2.1
set_option maxHeartbeats 4000000 in
set_option maxRecDepth 100000 in
theorem cX7_two_ok (l : Launch) (g : Gz) (κ : Kz) (I : Iz) (R : Rz) (J : Jz) (A sb : Nat → Nat) (hn : LNg κ R A sb) (pg : Nat → Nat) (n kn : Nat) (ks : Nat → Sg) (tm : Nat → Int32) (T : Sg) (qa w bd : Nat) (te td : Int32) (hs : CS I A sb pg n kn ks tm T qa w bd te td) (hv : ∀ i, i < kn → okQ (ks i)) (a b v : Int32) : Ct l mX7_two 0 0 g [.ref (A 9), .int a, .int b, .int v] κ I R J (Si κ R J (fun r I1 => r = twoR kn ks w a b v ∧ Ft κ cT I I1 ∧ CS I1 A sb pg n kn ks tm T qa w bd te td)) := by
  refine ct_of (by decide) (Nat.le_of_ble_eq_true rfl) ?_
  intro z hz hr hrc hrs
  have hz : Am z cX7_two RX7 4 5 := hz
  have hr : Rt z yX7_two (some .int) 0 0 _ := hr
  show V z 4 0 0 0 [(0, .ref (A 9)), (1, .int a), (2, .int b), (3, .int v)] [] κ I R J
  obtain ⟨k9, o9, ⟨r0, r1, r2, r3, r4, r5, r6⟩, ⟨k10, n10, o10⟩, hsh, hgap, hp, hx, ha, hc, hf, hq⟩ := id hn
  have kp := hp.1
  have op := hp.2.2.2.2.1
  have op2 := hp.2.2.2.2.2
  have kx := hx.1
  have ka := ha.1
  have kc := hc.1
  have kf := hf.1
  have kq := hq.1
  obtain ⟨h0, ⟨h2, h3, h4⟩, ⟨h5, h6⟩, ⟨h8, h8a, h8b, h9, h10⟩, ⟨h11, h12⟩, h13, ⟨h14, h15⟩⟩ := id hs
  refine v_aload_n hz dX7_two_0 rfl ?_
  refine v_iload_n hz dX7_two_1 rfl ?_
  refine v_callVi hz lX7_108 (cX7_isKept_ok _ _ _ _ _ _ A sb hn kn a h3) (by assumption) rfl rfl (Nat.le_of_ble_eq_true rfl) (by decide) ⟨Nat.zero_le _, Nat.zero_le _⟩ dX7_two_2 (fun r I9 qk => ?_)
  obtain ⟨rfl, eIqk⟩ := qk
  rw [eIqk]
  with_reducible refine v_if_eqB hz 16 dX7_two_5 (by decide) (fun c5 => ?_) (fun c5 => ?_)
  · refine v_si (v := (-1001)) hz dX7_two_16 (by decide) ?_
    exact v_iret hz hr dX7_two_19 (by
          refine ⟨?_, Ft.rf, hs⟩
          unfold twoR
          first
          | exact (if_neg (fun q => c5 q.1)).symm
          | exact (if_neg (fun q => c13 q.2)).symm)
  · refine v_aload_n hz dX7_two_8 rfl ?_
    refine v_iload_n hz dX7_two_9 rfl ?_
    refine v_callVi hz lX7_108 (cX7_isKept_ok _ _ _ _ _ _ A sb hn kn b h3) (by assumption) rfl rfl (Nat.le_of_ble_eq_true rfl) (by decide) ⟨Nat.zero_le _, Nat.zero_le _⟩ dX7_two_10 (fun r I9 qk => ?_)
    obtain ⟨rfl, eIqk⟩ := qk
    rw [eIqk]
    with_reducible refine v_if_neB hz 20 dX7_two_13 (by decide) (fun c13 => ?_) (fun c13 => ?_)
    · obtain ⟨s, rfl, hks⟩ := kpt_of (by omega) c5
      obtain ⟨u, rfl, hku⟩ := kpt_of (by omega) c13
      obtain ⟨ra, loa, hia, ga⟩ := hsh s (by omega)
      obtain ⟨ka, oa, ⟨ra0, ka1, na1, oa1⟩, -, ra8⟩ := id ga
      obtain ⟨hga, hta⟩ := h4 s (by omega)
      obtain ⟨⟨ca1, ca2, ca3, ca8⟩, Gra, ca4, ca5⟩ := id hga
      obtain ⟨rb, lob, hib, gb⟩ := hsh u (by omega)
      obtain ⟨kb, ob, ⟨rb0, kb1, nb1, ob1⟩, -, rb8⟩ := id gb
      obtain ⟨hgb, htb⟩ := h4 u (by omega)
      obtain ⟨⟨cb1, cb2, cb3, cb8⟩, Grb, cb4, cb5⟩ := id hgb
      refine v_iload_n hz dX7_two_20 rfl ?_
      refine v_ic (v := nI 5) hz dX7_two_21 (by decide) ?_
      refine v_callSi hz lX7_124 (cX7_isWithin_ok _ _ _ _ _ _ _ _) rfl rfl (Nat.le_of_ble_eq_true rfl) (by decide) ⟨Nat.zero_le _, Nat.zero_le _⟩ dX7_two_22 (fun r I9 qw => ?_)
      obtain ⟨rfl, eIqw⟩ := qw
      rw [eIqw]
      with_reducible refine v_if_neB hz 32 dX7_two_25 (by decide) (fun c25 => ?_) (fun c25 => ?_)
      · obtain ⟨q, rfl, hv1⟩ := kpt_of (by omega) c25
        refine v_aload_n hz dX7_two_32 rfl ?_
        refine v_getR hz fX7_37 (by assumption) (by assumption) dX7_two_33 ?_
        refine v_aload_n hz dX7_two_36 rfl ?_
        refine v_getR hz fX7_18 (by assumption) (by assumption) dX7_two_37 ?_
        refine v_iload_n hz dX7_two_40 rfl ?_
        refine v_aaldN hz (by omega) (by assumption) (by omega) (by decide) ra dX7_two_41 ?_
        refine v_aload_n hz dX7_two_42 rfl ?_
        refine v_getR hz fX7_18 (by assumption) (by assumption) dX7_two_43 ?_
        refine v_iload_n hz dX7_two_46 rfl ?_
        refine v_aaldN hz (by omega) (by assumption) (by omega) (by decide) rb dX7_two_47 ?_
        refine v_aload_n hz dX7_two_48 rfl ?_
        refine v_getI hz fX7_55 (by assumption) dX7_two_49 ?_
        refine v_top h8 ?_
        refine v_aload_n hz dX7_two_52 rfl ?_
        refine v_getR hz fX7_44 (by assumption) (by assumption) dX7_two_53 ?_
        refine v_callVv hz lX7_151 (cX0_compare_ok _ _ _ _ _ _ A ha w (sb s) (sb u) 60 (ks s) (ks u) ga gb hc loa lob (by decide) hga hgb (hv s hks).1.1 ⟨h8a, h8b⟩) (by assumption) rfl rfl (Nat.le_of_ble_eq_true rfl) (by decide) ⟨Nat.zero_le _, Nat.zero_le _⟩ dX7_two_56 (fun I2 q56 => ?_)
        obtain ⟨e1, e2, -⟩ := q56
        have hF := e1.ft ha hc
        refine v_aload_n hz dX7_two_59 rfl ?_
        refine v_getR hz fX7_44 (by assumption) (by assumption) dX7_two_60 ?_
        refine v_iload_n hz dX7_two_63 rfl ?_
        refine v_callVi hz lX7_155 (cX1_tell5_ok _ _ _ _ _ _ A 60 hc q hv1) (by assumption) rfl rfl (Nat.le_of_ble_eq_true rfl) (by decide) ⟨Nat.zero_le _, Nat.zero_le _⟩ dX7_two_64 (fun r I3 q64 => ?_)
        obtain ⟨rfl, eIq64⟩ := q64
        rw [eIq64]
        exact v_iret hz hr dX7_two_67 (by
              refine ⟨?_, hF.wid (fun t ht => Or.inl (by rcases ht with (h | h | h) | h <;> omega)), CS.ft hn (hF.wid (fun t ht => ht.elim Or.inl (fun h => Or.inr (Or.inl ⟨by omega, by omega⟩)))) hs⟩
              unfold twoR
              rw [if_pos ⟨c5, c13⟩, if_pos c25, nI_clamp (by omega), nI_clamp (by omega), nI_clamp (by omega)]
              exact tw_tell e2 hv1)
      · refine v_si (v := (-1002)) hz dX7_two_28 (by decide) ?_
        exact v_iret hz hr dX7_two_31 ⟨by unfold twoR; rw [if_pos ⟨c5, c13⟩, if_neg c25], Ft.rf, hs⟩
    · refine v_si (v := (-1001)) hz dX7_two_16 (by decide) ?_
      exact v_iret hz hr dX7_two_19 (by
            refine ⟨?_, Ft.rf, hs⟩
            unfold twoR
            first
            | exact (if_neg (fun q => c5 q.1)).symm
            | exact (if_neg (fun q => c13 q.2)).symm)
theorem gl1 {x y : Int32} (h : grC x y) (e : x ≠ nI 94) : x - nI 97 + nI 1 = nI (gr1 x) := by
  obtain ⟨c, rfl, h1, h2⟩ := lett_N (h.1.1.resolve_left e)
  unfold gr1
  rw [if_neg e, nI_clamp (by omega), ln_letter h1]
theorem gl2 {x y : Int32} (h : grC x y) (e : y ≠ nI 36) : y - nI 97 + nI 1 = nI (gr2 y) := by
  obtain ⟨c, rfl, h1, h2⟩ := lett_N (h.1.2.resolve_left e)
  unfold gr2
  rw [if_neg e, nI_clamp (by omega), ln_letter h1]
set_option maxHeartbeats 4000000 in
set_option maxRecDepth 100000 in
theorem gm_tail {z : Zz} {κ : Kz} {I : Iz} {R : Rz} {J : Jz} {A sb : Nat → Nat} (hn : LNg κ R A sb) (hz : Am z cX7_gram RX7 5 2) {kn : Nat} {ks : Nat → Sg} {x y : Int32} (h13 : cix I A (hlm ccode ks kn)) (hgr : grC x y) (hr : Rt z yX7_gram (some .int) 0 0 (Si κ R J (fun r I1 => r = grmR kn ks x y ∧ I1 = I))) : V z 5 0 0 50 [(0, .ref (A 9)), (1, .int x), (2, .int y)] [] κ I R J := by
  obtain ⟨k9, o9, ⟨r0, r1, r2, r3, r4, r5, r6⟩, ⟨k10, n10, o10⟩, hsh, hgap, hp, hx, ha, hc, hf, hq⟩ := id hn
  have kp := hp.1
  have op := hp.2.2.2.2.1
  have op2 := hp.2.2.2.2.2
  have kx := hx.1
  have ka := ha.1
  have kc := hc.1
  have kf := hf.1
  have kq := hq.1
  have x2 := (gs1 hgr).2
  have y2 := (gs2 hgr).2
  have hcd : ccode (gr1 x, gr2 y) = 27 * gr1 x + gr2 y := rfl
  refine v_iload_n hz dX7_gram_50 rfl ?_
  refine v_bi (v := nI 94) hz dX7_gram_51 (by decide) ?_
  refine v_join2 64 (nI (gr1 x)) (fun hj => ?_) ?_
  · refine v_icmp_ne hz 60 dX7_gram_53 (by decide) (fun c53 => ?_) (fun c53 => ?_)
    · refine v_iload_n hz dX7_gram_60 rfl ?_
      refine v_callSi hz lX7_159 (cX7_letterNumber_ok _ _ _ _ _ _ _) rfl rfl (Nat.le_of_ble_eq_true rfl) (by decide) ⟨Nat.zero_le _, Nat.zero_le _⟩ dX7_gram_61 (fun r I9 qn => ?_)
      obtain ⟨rfl, eIqn⟩ := qn
      rw [eIqn]
      exact v_top (by first | exact (by unfold gr1; rw [if_pos (by first | exact c53 | exact Classical.not_not.mp c53)]) | exact gl1 hgr c53) hj
    · refine v_ic (v := nI 0) hz dX7_gram_56 (by decide) ?_
      refine v_goto hz 64 dX7_gram_57 (by decide) ?_
      exact v_top (by first | exact (by unfold gr1; rw [if_pos (by first | exact c53 | exact Classical.not_not.mp c53)]) | exact gl1 hgr c53) hj
  refine v_istore_n hz dX7_gram_64 (by decide) rfl ?_
  refine v_iload_n hz dX7_gram_65 rfl ?_
  refine v_bi (v := nI 36) hz dX7_gram_66 (by decide) ?_
  refine v_join2 79 (nI (gr2 y)) (fun hj => ?_) ?_
  · refine v_icmp_ne hz 75 dX7_gram_68 (by decide) (fun c68 => ?_) (fun c68 => ?_)
    · refine v_iload_n hz dX7_gram_75 rfl ?_
      refine v_callSi hz lX7_159 (cX7_letterNumber_ok _ _ _ _ _ _ _) rfl rfl (Nat.le_of_ble_eq_true rfl) (by decide) ⟨Nat.zero_le _, Nat.zero_le _⟩ dX7_gram_76 (fun r I9 qn => ?_)
      obtain ⟨rfl, eIqn⟩ := qn
      rw [eIqn]
      exact v_top (by first | exact (by unfold gr2; rw [if_pos (by first | exact c68 | exact Classical.not_not.mp c68)]) | exact gl2 hgr c68) hj
    · refine v_ic (v := nI 0) hz dX7_gram_71 (by decide) ?_
      refine v_goto hz 79 dX7_gram_72 (by decide) ?_
      exact v_top (by first | exact (by unfold gr2; rw [if_pos (by first | exact c68 | exact Classical.not_not.mp c68)]) | exact gl2 hgr c68) hj
  refine v_istore hz dX7_gram_79 (by decide) rfl ?_
  refine v_aload_n hz dX7_gram_81 rfl ?_
  refine v_getR hz fX7_30 (by assumption) (by assumption) dX7_gram_82 ?_
  refine v_iload_n hz dX7_gram_85 rfl ?_
  refine v_iload hz dX7_gram_86 rfl ?_
  refine v_callSi hz lX7_162 (cX7_gramNumber_ok _ _ _ _ _ _ _ _) rfl rfl (Nat.le_of_ble_eq_true rfl) (by decide) ⟨Nat.zero_le _, Nat.zero_le _⟩ dX7_gram_88 (fun r I9 qn => ?_)
  obtain ⟨rfl, eIqn⟩ := qn
  rw [eIqn]
  refine v_top (y := nI (ccode (gr1 x, gr2 y))) gn_code ?_
  refine v_callVi hz lX7_165 (cX3_holdersOf_ok _ _ _ _ _ _ A hx (ccode (gr1 x, gr2 y)) (by omega)) (by assumption) rfl rfl (Nat.le_of_ble_eq_true rfl) (by decide) ⟨Nat.zero_le _, Nat.zero_le _⟩ dX7_gram_91 (fun r I9 qn => ?_)
  obtain ⟨rfl, eIqn⟩ := qn
  rw [eIqn]
  exact v_iret hz hr dX7_gram_94 ⟨by unfold grmR; rw [(h13.1 _ (by omega)).1]; exact (if_pos hgr).symm, rfl⟩
set_option maxHeartbeats 4000000 in
set_option maxRecDepth 100000 in
theorem cX7_gram_ok (l : Launch) (g : Gz) (κ : Kz) (I : Iz) (R : Rz) (J : Jz) (A sb : Nat → Nat) (hn : LNg κ R A sb) (pg : Nat → Nat) (n kn : Nat) (ks : Nat → Sg) (tm : Nat → Int32) (T : Sg) (qa w bd : Nat) (te td : Int32) (hs : CS I A sb pg n kn ks tm T qa w bd te td) (x y : Int32) : Ct l mX7_gram 0 0 g [.ref (A 9), .int x, .int y] κ I R J (Si κ R J (fun r I1 => r = grmR kn ks x y ∧ I1 = I)) := by
  refine ct_of (by decide) (Nat.le_of_ble_eq_true rfl) ?_
  intro z hz hr hrc hrs
  have hz : Am z cX7_gram RX7 5 2 := hz
  have hr : Rt z yX7_gram (some .int) 0 0 _ := hr
  show V z 5 0 0 0 [(0, .ref (A 9)), (1, .int x), (2, .int y)] [] κ I R J
  obtain ⟨k9, o9, ⟨r0, r1, r2, r3, r4, r5, r6⟩, ⟨k10, n10, o10⟩, hsh, hgap, hp, hx, ha, hc, hf, hq⟩ := id hn
  have kp := hp.1
  have op := hp.2.2.2.2.1
  have op2 := hp.2.2.2.2.2
  have kx := hx.1
  have ka := ha.1
  have kc := hc.1
  have kf := hf.1
  have kq := hq.1
  obtain ⟨h0, ⟨h2, h3, h4⟩, ⟨h5, h6⟩, ⟨h8, h8a, h8b, h9, h10⟩, ⟨h11, h12⟩, h13, ⟨h14, h15⟩⟩ := id hs
  refine v_iload_n hz dX7_gram_0 rfl ?_
  refine v_bi (v := nI 94) hz dX7_gram_1 (by decide) ?_
  refine v_icmp_eq hz 17 dX7_gram_3 (by decide) (fun c3 => ?_) (fun c3 => ?_)
  · refine v_iload_n hz dX7_gram_17 rfl ?_
    refine v_bi (v := nI 36) hz dX7_gram_18 (by decide) ?_
    refine v_icmp_eq hz 34 dX7_gram_20 (by decide) (fun c20 => ?_) (fun c20 => ?_)
    · refine v_iload_n hz dX7_gram_34 rfl ?_
      refine v_bi (v := nI 94) hz dX7_gram_35 (by decide) ?_
      refine v_icmp_ne hz 50 dX7_gram_37 (by decide) (fun c37 => ?_) (fun c37 => ?_)
      · exact v_sub (gm_tail hn hz h13 ⟨⟨by first | exact Or.inl c3 | exact Or.inr c10, by first | exact Or.inl c20 | exact Or.inr c27⟩, by first | exact fun q => c37 q.1 | exact fun q => c43 q.2⟩ hr) ⟨rfl, rfl, rfl, trivial⟩
      · refine v_iload_n hz dX7_gram_40 rfl ?_
        refine v_bi (v := nI 36) hz dX7_gram_41 (by decide) ?_
        refine v_icmp_ne hz 50 dX7_gram_43 (by decide) (fun c43 => ?_) (fun c43 => ?_)
        · exact v_sub (gm_tail hn hz h13 ⟨⟨by first | exact Or.inl c3 | exact Or.inr c10, by first | exact Or.inl c20 | exact Or.inr c27⟩, by first | exact fun q => c37 q.1 | exact fun q => c43 q.2⟩ hr) ⟨rfl, rfl, rfl, trivial⟩
        · refine v_si (v := (-1002)) hz dX7_gram_46 (by decide) ?_
          exact v_iret hz hr dX7_gram_49 ⟨(if_neg (fun q => q.2 ⟨by first | exact c37 | exact Classical.not_not.mp c37, by first | exact c43 | exact Classical.not_not.mp c43⟩)).symm, rfl⟩
    · refine v_iload_n hz dX7_gram_23 rfl ?_
      refine v_callSi hz lX7_156 (cX7_isSmallLetter_ok _ _ _ _ _ _ _) rfl rfl (Nat.le_of_ble_eq_true rfl) (by decide) ⟨Nat.zero_le _, Nat.zero_le _⟩ dX7_gram_24 (fun r I9 qn => ?_)
      obtain ⟨rfl, eIqn⟩ := qn
      rw [eIqn]
      with_reducible refine v_if_neB hz 34 dX7_gram_27 (by decide) (fun c27 => ?_) (fun c27 => ?_)
      · refine v_iload_n hz dX7_gram_34 rfl ?_
        refine v_bi (v := nI 94) hz dX7_gram_35 (by decide) ?_
        refine v_icmp_ne hz 50 dX7_gram_37 (by decide) (fun c37 => ?_) (fun c37 => ?_)
        · exact v_sub (gm_tail hn hz h13 ⟨⟨by first | exact Or.inl c3 | exact Or.inr c10, by first | exact Or.inl c20 | exact Or.inr c27⟩, by first | exact fun q => c37 q.1 | exact fun q => c43 q.2⟩ hr) ⟨rfl, rfl, rfl, trivial⟩
        · refine v_iload_n hz dX7_gram_40 rfl ?_
          refine v_bi (v := nI 36) hz dX7_gram_41 (by decide) ?_
          refine v_icmp_ne hz 50 dX7_gram_43 (by decide) (fun c43 => ?_) (fun c43 => ?_)
          · exact v_sub (gm_tail hn hz h13 ⟨⟨by first | exact Or.inl c3 | exact Or.inr c10, by first | exact Or.inl c20 | exact Or.inr c27⟩, by first | exact fun q => c37 q.1 | exact fun q => c43 q.2⟩ hr) ⟨rfl, rfl, rfl, trivial⟩
          · refine v_si (v := (-1002)) hz dX7_gram_46 (by decide) ?_
            exact v_iret hz hr dX7_gram_49 ⟨(if_neg (fun q => q.2 ⟨by first | exact c37 | exact Classical.not_not.mp c37, by first | exact c43 | exact Classical.not_not.mp c43⟩)).symm, rfl⟩
      · refine v_si (v := (-1002)) hz dX7_gram_30 (by decide) ?_
        exact v_iret hz hr dX7_gram_33 ⟨(if_neg (fun q => q.1.2.elim c20 c27)).symm, rfl⟩
  · refine v_iload_n hz dX7_gram_6 rfl ?_
    refine v_callSi hz lX7_156 (cX7_isSmallLetter_ok _ _ _ _ _ _ _) rfl rfl (Nat.le_of_ble_eq_true rfl) (by decide) ⟨Nat.zero_le _, Nat.zero_le _⟩ dX7_gram_7 (fun r I9 qn => ?_)
    obtain ⟨rfl, eIqn⟩ := qn
    rw [eIqn]
    with_reducible refine v_if_neB hz 17 dX7_gram_10 (by decide) (fun c10 => ?_) (fun c10 => ?_)
    · refine v_iload_n hz dX7_gram_17 rfl ?_
      refine v_bi (v := nI 36) hz dX7_gram_18 (by decide) ?_
      refine v_icmp_eq hz 34 dX7_gram_20 (by decide) (fun c20 => ?_) (fun c20 => ?_)
      · refine v_iload_n hz dX7_gram_34 rfl ?_
        refine v_bi (v := nI 94) hz dX7_gram_35 (by decide) ?_
        refine v_icmp_ne hz 50 dX7_gram_37 (by decide) (fun c37 => ?_) (fun c37 => ?_)
        · exact v_sub (gm_tail hn hz h13 ⟨⟨by first | exact Or.inl c3 | exact Or.inr c10, by first | exact Or.inl c20 | exact Or.inr c27⟩, by first | exact fun q => c37 q.1 | exact fun q => c43 q.2⟩ hr) ⟨rfl, rfl, rfl, trivial⟩
        · refine v_iload_n hz dX7_gram_40 rfl ?_
          refine v_bi (v := nI 36) hz dX7_gram_41 (by decide) ?_
          refine v_icmp_ne hz 50 dX7_gram_43 (by decide) (fun c43 => ?_) (fun c43 => ?_)
          · exact v_sub (gm_tail hn hz h13 ⟨⟨by first | exact Or.inl c3 | exact Or.inr c10, by first | exact Or.inl c20 | exact Or.inr c27⟩, by first | exact fun q => c37 q.1 | exact fun q => c43 q.2⟩ hr) ⟨rfl, rfl, rfl, trivial⟩
          · refine v_si (v := (-1002)) hz dX7_gram_46 (by decide) ?_
            exact v_iret hz hr dX7_gram_49 ⟨(if_neg (fun q => q.2 ⟨by first | exact c37 | exact Classical.not_not.mp c37, by first | exact c43 | exact Classical.not_not.mp c43⟩)).symm, rfl⟩
      · refine v_iload_n hz dX7_gram_23 rfl ?_
        refine v_callSi hz lX7_156 (cX7_isSmallLetter_ok _ _ _ _ _ _ _) rfl rfl (Nat.le_of_ble_eq_true rfl) (by decide) ⟨Nat.zero_le _, Nat.zero_le _⟩ dX7_gram_24 (fun r I9 qn => ?_)
        obtain ⟨rfl, eIqn⟩ := qn
        rw [eIqn]
        with_reducible refine v_if_neB hz 34 dX7_gram_27 (by decide) (fun c27 => ?_) (fun c27 => ?_)
        · refine v_iload_n hz dX7_gram_34 rfl ?_
          refine v_bi (v := nI 94) hz dX7_gram_35 (by decide) ?_
          refine v_icmp_ne hz 50 dX7_gram_37 (by decide) (fun c37 => ?_) (fun c37 => ?_)
          · exact v_sub (gm_tail hn hz h13 ⟨⟨by first | exact Or.inl c3 | exact Or.inr c10, by first | exact Or.inl c20 | exact Or.inr c27⟩, by first | exact fun q => c37 q.1 | exact fun q => c43 q.2⟩ hr) ⟨rfl, rfl, rfl, trivial⟩
          · refine v_iload_n hz dX7_gram_40 rfl ?_
            refine v_bi (v := nI 36) hz dX7_gram_41 (by decide) ?_
            refine v_icmp_ne hz 50 dX7_gram_43 (by decide) (fun c43 => ?_) (fun c43 => ?_)
            · exact v_sub (gm_tail hn hz h13 ⟨⟨by first | exact Or.inl c3 | exact Or.inr c10, by first | exact Or.inl c20 | exact Or.inr c27⟩, by first | exact fun q => c37 q.1 | exact fun q => c43 q.2⟩ hr) ⟨rfl, rfl, rfl, trivial⟩
            · refine v_si (v := (-1002)) hz dX7_gram_46 (by decide) ?_
              exact v_iret hz hr dX7_gram_49 ⟨(if_neg (fun q => q.2 ⟨by first | exact c37 | exact Classical.not_not.mp c37, by first | exact c43 | exact Classical.not_not.mp c43⟩)).symm, rfl⟩
        · refine v_si (v := (-1002)) hz dX7_gram_30 (by decide) ?_
          exact v_iret hz hr dX7_gram_33 ⟨(if_neg (fun q => q.1.2.elim c20 c27)).symm, rfl⟩
    · refine v_si (v := (-1002)) hz dX7_gram_13 (by decide) ?_
      exact v_iret hz hr dX7_gram_16 ⟨(if_neg (fun q => q.1.1.elim c3 c10)).symm, rfl⟩
set_option maxHeartbeats 4000000 in
set_option maxRecDepth 100000 in
theorem cX7_count_ok (l : Launch) (g : Gz) (κ : Kz) (I : Iz) (R : Rz) (J : Jz) (A sb : Nat → Nat) (hn : LNg κ R A sb) (pg : Nat → Nat) (n kn : Nat) (ks : Nat → Sg) (tm : Nat → Int32) (T : Sg) (qa w bd : Nat) (te td : Int32) (hs : CS I A sb pg n kn ks tm T qa w bd te td) (x : Int32) : Ct l mX7_count 0 0 g [.ref (A 9), .int x] κ I R J (Si κ R J (fun r I1 => r = cntR n kn ks qa w bd te td x ∧ I1 = I)) := by
  refine ct_of (by decide) (Nat.le_of_ble_eq_true rfl) ?_
  intro z hz hr hrc hrs
  have hz : Am z cX7_count RX7 2 0 := hz
  have hr : Rt z yX7_count (some .int) 0 0 _ := hr
  show V z 2 0 0 0 [(0, .ref (A 9)), (1, .int x)] [] κ I R J
  obtain ⟨k9, o9, ⟨r0, r1, r2, r3, r4, r5, r6⟩, ⟨k10, n10, o10⟩, hsh, hgap, hp, hx, ha, hc, hf, hq⟩ := id hn
  have kp := hp.1
  have op := hp.2.2.2.2.1
  have op2 := hp.2.2.2.2.2
  have kx := hx.1
  have ka := ha.1
  have kc := hc.1
  have kf := hf.1
  have kq := hq.1
  obtain ⟨h0, ⟨h2, h3, h4⟩, ⟨h5, h6⟩, ⟨h8, h8a, h8b, h9, h10⟩, ⟨h11, h12⟩, h13, ⟨h14, h15⟩⟩ := id hs
  refine v_iload_n hz dX7_count_0 rfl ?_
  refine v_tsw hz 0 7 [48, 56, 61, 66, 71, 76, 81, 86] 94 dX7_count_1 ⟨rfl, rfl⟩ (by decide) (by decide) (by decide) (fun j1 hj1_1 hj2_1 c1 => ?_) (fun c1 => ?_)
  · rcases (show j1 = 0 ∨ j1 = 1 ∨ j1 = 2 ∨ j1 = 3 ∨ j1 = 4 ∨ j1 = 5 ∨ j1 = 6 ∨ j1 = 7 by omega) with rfl | rfl | rfl | rfl | rfl | rfl | rfl | rfl
    · refine v_pc (pc' := 48) rfl ?_
      subst c1
      refine v_aload_n hz dX7_count_48 rfl ?_
      refine v_getR hz fX7_12 (by assumption) (by assumption) dX7_count_49 ?_
      refine v_getI hz fX7_74 (by assumption) dX7_count_52 ?_
      refine v_top h0.2.1 ?_
      exact v_iret hz hr dX7_count_55 ⟨by unfold cntR; rw [if_pos rfl], rfl⟩
    · refine v_pc (pc' := 56) rfl ?_
      subst c1
      refine v_aload_n hz dX7_count_56 rfl ?_
      refine v_getI hz fX7_87 (by assumption) dX7_count_57 ?_
      refine v_top h3 ?_
      exact v_iret hz hr dX7_count_60 ⟨by unfold cntR; rw [if_neg (by decide), if_pos rfl], rfl⟩
    · refine v_pc (pc' := 61) rfl ?_
      subst c1
      refine v_aload_n hz dX7_count_61 rfl ?_
      refine v_getI hz fX7_105 (by assumption) dX7_count_62 ?_
      refine v_top h11 ?_
      exact v_iret hz hr dX7_count_65 ⟨by unfold cntR; rw [if_neg (by decide), if_neg (by decide), if_pos rfl], rfl⟩
    · refine v_pc (pc' := 66) rfl ?_
      subst c1
      refine v_aload_n hz dX7_count_66 rfl ?_
      refine v_getI hz fX7_115 (by assumption) dX7_count_67 ?_
      refine v_top h12 ?_
      exact v_iret hz hr dX7_count_70 ⟨by unfold cntR; rw [if_neg (by decide), if_neg (by decide), if_neg (by decide), if_pos rfl], rfl⟩
    · refine v_pc (pc' := 71) rfl ?_
      subst c1
      refine v_aload_n hz dX7_count_71 rfl ?_
      refine v_getI hz fX7_118 (by assumption) dX7_count_72 ?_
      refine v_top h5 ?_
      exact v_iret hz hr dX7_count_75 ⟨by unfold cntR; rw [if_neg (by decide), if_neg (by decide), if_neg (by decide), if_neg (by decide), if_pos rfl], rfl⟩
    · refine v_pc (pc' := 76) rfl ?_
      subst c1
      refine v_aload_n hz dX7_count_76 rfl ?_
      refine v_getI hz fX7_55 (by assumption) dX7_count_77 ?_
      refine v_top h8 ?_
      exact v_iret hz hr dX7_count_80 ⟨by unfold cntR; rw [if_neg (by decide), if_neg (by decide), if_neg (by decide), if_neg (by decide), if_neg (by decide), if_pos rfl], rfl⟩
    · refine v_pc (pc' := 81) rfl ?_
      subst c1
      refine v_aload_n hz dX7_count_81 rfl ?_
      refine v_getI hz fX7_59 (by assumption) dX7_count_82 ?_
      refine v_top h9 ?_
      exact v_iret hz hr dX7_count_85 ⟨by unfold cntR; rw [if_neg (by decide), if_neg (by decide), if_neg (by decide), if_neg (by decide), if_neg (by decide), if_neg (by decide), if_pos rfl], rfl⟩
    · refine v_pc (pc' := 86) rfl ?_
      subst c1
      refine v_aload_n hz dX7_count_86 rfl ?_
      refine v_getR hz fX7_30 (by assumption) (by assumption) dX7_count_87 ?_
      refine v_getI hz fX7_198 (by assumption) dX7_count_90 ?_
      refine v_top h13.2 ?_
      exact v_iret hz hr dX7_count_93 ⟨by unfold cntR; rw [if_neg (by decide), if_neg (by decide), if_neg (by decide), if_neg (by decide), if_neg (by decide), if_neg (by decide), if_neg (by decide), if_pos rfl], rfl⟩
  · refine v_si (v := (-1002)) hz dX7_count_94 (by decide) ?_
    exact v_iret hz hr dX7_count_97 ⟨by unfold cntR; rw [if_neg (fun e => c1 ⟨0, by omega, by omega, e⟩), if_neg (fun e => c1 ⟨1, by omega, by omega, e⟩), if_neg (fun e => c1 ⟨2, by omega, by omega, e⟩), if_neg (fun e => c1 ⟨3, by omega, by omega, e⟩), if_neg (fun e => c1 ⟨4, by omega, by omega, e⟩), if_neg (fun e => c1 ⟨5, by omega, by omega, e⟩), if_neg (fun e => c1 ⟨6, by omega, by omega, e⟩), if_neg (fun e => c1 ⟨7, by omega, by omega, e⟩)], rfl⟩
