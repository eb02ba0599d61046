/-! ===== the reference's state ===== -/
/-- all but the reference's cells is as it was -/
def Fo (A : Nat → Nat) (I I1 : Iz) : Prop := ∀ a, (∀ t, 130 ≤ t → t < 160 → a ≠ A t) → I1 a = I a
theorem Fo.rf {A : Nat → Nat} {I : Iz} : Fo A I I := fun _ _ => rfl
theorem Fo.tr {A : Nat → Nat} {I I1 I2 : Iz} (h : Fo A I I1) (k : Fo A I1 I2) : Fo A I I2 := fun a q => (k a q).trans (h a q)
theorem Fo.put {A : Nat → Nat} {I I1 : Iz} (h : Fo A I I1) {t j : Nat} {x : Int32} (h1 : 130 ≤ t) (h2 : t < 160) : Fo A I (u2 I1 (A t) j x) := fun a q => by rw [u2_ne (q t h1 h2)]; exact h a q
theorem RF.fo {A : Nat → Nat} {I I1 : Iz} (h : RF A I I1) : Fo A I I1 := fun a q => h.1 a (q 130 (by decide) (by decide)) (q 134 (by decide) (by decide)) (q 136 (by decide) (by decide)) (q 137 (by decide) (by decide)) (q 138 (by decide) (by decide))
theorem cpS.fo {A : Nat → Nat} {I I1 : Iz} {s d k k2 : Nat} (h : cpS A I I1 s d k k2) : Fo A I I1 := fun a q => h.1 a (q 134 (by decide) (by decide)) (q 135 (by decide) (by decide)) (q 136 (by decide) (by decide)) (q 137 (by decide) (by decide)) (q 138 (by decide) (by decide))
theorem Fm.fo {ts : List Nat} {A : Nat → Nat} {I I1 : Iz} (h : Fm ts A I I1) (ht : ∀ t ∈ ts, 130 ≤ t ∧ t < 160) : Fo A I I1 := fun a q => h a (fun t k => q t (ht t k).1 (ht t k).2)
theorem QF.fo {A : Nat → Nat} {I I1 : Iz} (h : QF A I I1) : Fo A I I1 := h.1.fo (by decide)
def MS (I : Iz) (A : Nat → Nat) (pg : Nat → Nat) (n kn : Nat) (ks : Nat → Sg) (tm : Nat → Int32) (T : Sg) (qa w bd : Nat) (te td : Int32) : Prop := mpg I A n pg ∧ (kn ≤ 12 ∧ I (A 130) 2 = nI kn ∧ ∀ i, i < kn → msg I A i (ks i) ∧ I (A 135) i = tm i) ∧ (I (A 130) 3 = bz (0 < qa) ∧ I (A 130) 13 = nI qa ∧ (0 < qa → msg I A 12 T)) ∧ (wt I A w ∧ I (A 130) 10 = nI bd ∧ bd ≤ 1000) ∧ I (A 130) 11 = te ∧ I (A 130) 12 = td
theorem RF.msg {A : Nat → Nat} {I I1 : Iz} (h : RF A I I1) {s : Nat} {S : Sg} (hs : s < 13) (hq : msg I A s S) : msg I1 A s S := by
  obtain ⟨f1, f2, f3, f4, f5, f6⟩ := h
  obtain ⟨s1, s2, s3, s4⟩ := hq
  refine ⟨s1, s2, by rw [f3 _ (by omega)]; exact s3, fun i hi => ?_⟩
  obtain ⟨⟨m1, m2, m3, m4⟩, d1, d2⟩ := s4 i hi
  exact ⟨⟨m1, m2, by rw [f4 _ (by omega)]; exact m3, fun j hj => by rw [f6 _ (by omega)]; exact m4 j hj⟩, by rw [f5 _ (by omega)]; exact d1, d2⟩
theorem RF.ms {κ : Kz} {R : Rz} {A : Nat → Nat} (hm : LM κ R A) {I I1 : Iz} (h : RF A I I1) {pg : Nat → Nat} {n kn : Nat} {ks : Nat → Sg} {tm : Nat → Int32} {T : Sg} {qa w bd : Nat} {te td : Int32} (hs : MS I A pg n kn ks tm T qa w bd te td) : MS I1 A pg n kn ks tm T qa w bd te td := by
  obtain ⟨h1, ⟨h2, h3, h4⟩, ⟨h5, h6, h7⟩, ⟨⟨h8, h8a⟩, h9, h10⟩, h11, h12⟩ := hs
  have g := h.2.1
  have e5 : I1 (A 135) = I (A 135) := h.1 _ (show A 135 ≠ A 130 from hm.ne 5 0 (by decide) (by decide) (by decide)) (show A 135 ≠ A 134 from hm.ne 5 4 (by decide) (by decide) (by decide)) (show A 135 ≠ A 136 from hm.ne 5 6 (by decide) (by decide) (by decide)) (show A 135 ≠ A 137 from hm.ne 5 7 (by decide) (by decide) (by decide)) (show A 135 ≠ A 138 from hm.ne 5 8 (by decide) (by decide) (by decide))
  exact ⟨h.mpg hm h1, ⟨h2, (g 2 (by decide)).trans h3, fun i hi => ⟨h.msg (by omega) (h4 i hi).1, by rw [e5]; exact (h4 i hi).2⟩⟩, ⟨(g 3 (by decide)).trans h5, (g 13 (by decide)).trans h6, fun q => h.msg (by decide) (h7 q)⟩, ⟨⟨(g 9 (by decide)).trans h8, h8a⟩, (g 10 (by decide)).trans h9, h10⟩, (g 11 (by decide)).trans h11, (g 12 (by decide)).trans h12⟩
theorem QF.ms {κ : Kz} {R : Rz} {A : Nat → Nat} (hm : LM κ R A) {I I1 : Iz} (h : QF A I I1) {pg : Nat → Nat} {n kn : Nat} {ks : Nat → Sg} {tm : Nat → Int32} {T : Sg} {qa w bd : Nat} {te td : Int32} (hs : MS I A pg n kn ks tm T qa w bd te td) : MS I1 A pg n kn ks tm T qa w bd te td := by
  obtain ⟨⟨h0, h0a, h0b⟩, ⟨h2, h3, h4⟩, ⟨h5, h6, h7⟩, ⟨h8, h9, h10⟩, h11, h12⟩ := hs
  have g := fun f a b c => h.2 f a b c
  have e1 : I1 (A 131) = I (A 131) := h.row hm 1 (by decide)
  have e5 : I1 (A 135) = I (A 135) := h.row hm 5 (by decide)
  exact ⟨⟨h0, (g 0 (by decide) (by decide) (by decide)).trans h0a, fun j hj => by rw [e1]; exact h0b j hj⟩, ⟨h2, (g 2 (by decide) (by decide) (by decide)).trans h3, fun i hi => ⟨h.msg hm (h4 i hi).1, by rw [e5]; exact (h4 i hi).2⟩⟩, ⟨(g 3 (by decide) (by decide) (by decide)).trans h5, (g 13 (by decide) (by decide) (by decide)).trans h6, fun q => h.msg hm (h7 q)⟩, ⟨h.wt h8, (g 10 (by decide) (by decide) (by decide)).trans h9, h10⟩, (g 11 (by decide) (by decide) (by decide)).trans h11, (g 12 (by decide) (by decide) (by decide)).trans h12⟩
/-- a field of the reference is set: the rows stand -/
theorem msg.put0 {κ : Kz} {R : Rz} {A : Nat → Nat} (hm : LM κ R A) {I : Iz} {s f : Nat} {S : Sg} {x : Int32} (h : msg I A s S) : msg (u2 I (A 130) f x) A s S := h.keep (u2_ne (show A 134 ≠ A 130 from hm.ne 4 0 (by decide) (by decide) (by decide))) (u2_ne (show A 136 ≠ A 130 from hm.ne 6 0 (by decide) (by decide) (by decide))) (u2_ne (show A 137 ≠ A 130 from hm.ne 7 0 (by decide) (by decide) (by decide))) (u2_ne (show A 138 ≠ A 130 from hm.ne 8 0 (by decide) (by decide) (by decide)))
theorem msg.put5 {κ : Kz} {R : Rz} {A : Nat → Nat} (hm : LM κ R A) {I : Iz} {s f : Nat} {S : Sg} {x : Int32} (h : msg I A s S) : msg (u2 I (A 135) f x) A s S := h.keep (u2_ne (show A 134 ≠ A 135 from hm.ne 4 5 (by decide) (by decide) (by decide))) (u2_ne (show A 136 ≠ A 135 from hm.ne 6 5 (by decide) (by decide) (by decide))) (u2_ne (show A 137 ≠ A 135 from hm.ne 7 5 (by decide) (by decide) (by decide))) (u2_ne (show A 138 ≠ A 135 from hm.ne 8 5 (by decide) (by decide) (by decide)))
theorem msg.put1 {κ : Kz} {R : Rz} {A : Nat → Nat} (hm : LM κ R A) {I : Iz} {s f : Nat} {S : Sg} {x : Int32} (h : msg I A s S) : msg (u2 I (A 131) f x) A s S := h.keep (u2_ne (show A 134 ≠ A 131 from hm.ne 4 1 (by decide) (by decide) (by decide))) (u2_ne (show A 136 ≠ A 131 from hm.ne 6 1 (by decide) (by decide) (by decide))) (u2_ne (show A 137 ≠ A 131 from hm.ne 7 1 (by decide) (by decide) (by decide))) (u2_ne (show A 138 ≠ A 131 from hm.ne 8 1 (by decide) (by decide) (by decide)))
theorem rng_N {a b : Nat} {x : Int32} (ha : a < 2147483648) (hb : b < 2147483648) (h : nI a ≤ x ∧ x ≤ nI b) : ∃ c, x = nI c ∧ a ≤ c ∧ c ≤ b := by
  have h1 := Int32.le_iff_toInt_le.mp h.1
  have h2 := Int32.le_iff_toInt_le.mp h.2
  rw [nI_toInt ha] at h1
  rw [nI_toInt hb] at h2
  have h0 : ¬ x < 0 := fun q => by
    have := Int32.lt_iff_toInt_lt.mp q
    rw [show (0 : Int32).toInt = 0 from rfl] at this
    omega
  obtain ⟨j, hj, rfl⟩ := nI_of h0
  rw [nI_toInt hj] at h1 h2
  exact ⟨j, rfl, by omega, by omega⟩
theorem kpt_of {k : Nat} {x : Int32} (hk : k < 2147483648) (h : 0 ≤ x ∧ x < nI k) : ∃ i, x = nI i ∧ i < k := by
  have h1 := Int32.le_iff_toInt_le.mp h.1
  have h2 := Int32.lt_iff_toInt_lt.mp h.2
  rw [show (0 : Int32).toInt = 0 from rfl] at h1
  rw [nI_toInt hk] at h2
  have h0 : ¬ x < 0 := fun q => by
    have := Int32.lt_iff_toInt_lt.mp q
    rw [show (0 : Int32).toInt = 0 from rfl] at this
    omega
  obtain ⟨j, hj, rfl⟩ := nI_of h0
  rw [nI_toInt hj] at h2
  exact ⟨j, rfl, by omega⟩
theorem kpt_to {k i : Nat} (hk : k < 2147483648) (h : i < k) : 0 ≤ nI i ∧ nI i < nI k := by
  refine ⟨Int32.le_iff_toInt_le.mpr ?_, (nI_ltI (by omega) hk).mpr h⟩
  rw [show (0 : Int32).toInt = 0 from rfl, nI_toInt (by omega)]
  omega
theorem kpt_iff {k : Nat} {x : Int32} (hk : k < 2147483648) : (nI 0 ≤ x ∧ x ≤ nI k - nI 1) ↔ (0 ≤ x ∧ x < nI k) := by
  constructor
  · intro h
    by_cases e : k = 0
    · subst e
      have h1 := Int32.le_iff_toInt_le.mp h.1
      have h2 := Int32.le_iff_toInt_le.mp h.2
      rw [show (nI 0).toInt = 0 from rfl] at h1
      rw [show (nI 0 - nI 1 : Int32).toInt = -1 from rfl] at h2
      omega
    · rw [pk_sub (show 1 ≤ k by omega)] at h
      obtain ⟨c, rfl, -, hc⟩ := rng_N (by omega) (by omega) h
      exact kpt_to hk (by omega)
  · intro h
    obtain ⟨i, rfl, hi⟩ := kpt_of hk h
    rw [pk_sub (show 1 ≤ k by omega)]
    exact ⟨(nI_leI (by omega) (by omega)).mpr (Nat.zero_le _), (nI_leI (by omega) (by omega)).mpr (by omega)⟩
theorem kpt_w {k : Nat} {x : Int32} (hk : k < 2147483648) : bz (nI 0 ≤ x ∧ x ≤ nI k - nI 1) = bz (0 ≤ x ∧ x < nI k) := bz_c (kpt_iff hk)
set_option maxHeartbeats 4000000 in
set_option maxRecDepth 100000 in
theorem cX8_letter_ok (l : Launch) (g : Gz) (κ : Kz) (I : Iz) (R : Rz) (J : Jz) (A : Nat → Nat) (hm : LM κ R A) (pg : Nat → Nat) (n kn : Nat) (ks : Nat → Sg) (tm : Nat → Int32) (T : Sg) (qa w bd : Nat) (te td : Int32) (hs : MS I A pg n kn ks tm T qa w bd te td) (x : Int32) : Ct l mX8_letter 0 0 g [.ref (A 130), .int x] κ I R J (Si κ R J (fun r I1 => Fo A I I1 ∧ (¬ (nI 32 ≤ x ∧ x ≤ nI 126) → r = -1002 ∧ MS I1 A pg n kn ks tm T qa w bd te td) ∧ ((nI 32 ≤ x ∧ x ≤ nI 126) → (n = 48 → r = -1004 ∧ MS I1 A pg n kn ks tm T qa w bd te td) ∧ (n < 48 → r = nI (n + 1) ∧ MS I1 A (va_up pg n x.toNatClampNeg) (n + 1) kn ks tm T qa w bd te td)))) := by
  refine ct_of (by decide) (Nat.le_of_ble_eq_true rfl) ?_
  intro z hz hr hrc hrs
  have hz : Am z cX8_letter RX8 2 1 := hz
  have hr : Rt z yX8_letter (some .int) 0 0 _ := hr
  show V z 2 0 0 0 [(0, .ref (A 130)), (1, .int x)] [] κ I R J
  have hk := hm.k
  have ho := hm.o
  have hR1 := hm.r1
  have hK1 := hm.k1
  have hN1 := hm.n1
  have hO1 := hm.o1
  obtain ⟨⟨h0, h0a, h0b⟩, ⟨h2, h3, h4⟩, ⟨h5, h6, h7⟩, ⟨⟨h8, h8a⟩, h9, h10⟩, h11, h12⟩ := id hs
  refine v_iload_n hz dX8_letter_0 rfl ?_
  refine v_bi (v := nI 32) hz dX8_letter_1 (by decide) ?_
  refine v_bi (v := nI 126) hz dX8_letter_3 (by decide) ?_
  refine v_callSi hz lX8_75 (cX8_within_ok _ _ _ _ _ _ _ _ _) rfl rfl (Nat.le_of_ble_eq_true rfl) (by decide) ⟨Nat.zero_le _, Nat.zero_le _⟩ dX8_letter_5 (fun r I1 h5c => ?_)
  obtain ⟨rfl, eI⟩ := h5c
  rw [eI]
  first | with_reducible refine v_if_neB hz 15 dX8_letter_8 (by decide) (fun c8 => ?_) (fun c8 => ?_) | with_reducible refine v_if_neN hz 15 (by omega) dX8_letter_8 (by decide) (fun c8 => ?_) (fun c8 => ?_) | refine v_if_ne hz 15 dX8_letter_8 (by decide) (fun c8 => ?_) (fun c8 => ?_)
  · refine v_aload_n hz dX8_letter_15 rfl ?_
    refine v_getI hz fX8_79 (by assumption) dX8_letter_16 ?_
    refine v_top h0a ?_
    refine v_bi (v := nI 48) hz dX8_letter_19 (by decide) ?_
    first | with_reducible refine v_icmp_neN hz 28 (by omega) (by omega) dX8_letter_21 (by decide) (fun c21 => ?_) (fun c21 => ?_) | refine v_icmp_ne hz 28 dX8_letter_21 (by decide) (fun c21 => ?_) (fun c21 => ?_)
    · refine v_aload_n hz dX8_letter_28 rfl ?_
      refine v_getR hz fX8_7 (by assumption) (by assumption) dX8_letter_29 ?_
      refine v_aload_n hz dX8_letter_32 rfl ?_
      refine v_getI hz fX8_79 (by assumption) dX8_letter_33 ?_
      refine v_top h0a ?_
      refine v_iload_n hz dX8_letter_36 rfl ?_
      refine v_iastN hz (by assumption) (by assumption) (by omega) (by decide) dX8_letter_37 ?_
      refine v_aload_n hz dX8_letter_38 rfl ?_
      refine v_dup hz dX8_letter_39 rfl ?_
      refine v_getI hz fX8_79 (by assumption) dX8_letter_40 ?_
      refine v_top (y := nI n) (by rw [u2_ne (show A 130 ≠ A 131 from hm.ne 0 1 (by decide) (by decide) (by decide))]; exact h0a) ?_
      refine v_ic (v := nI 1) hz dX8_letter_43 (by decide) ?_
      first | with_reducible refine v_iaddN hz dX8_letter_44 ?_ | refine v_iadd hz dX8_letter_44 ?_
      refine v_putI hz fX8_79 (by assumption) dX8_letter_45 ?_
      refine v_aload_n hz dX8_letter_48 rfl ?_
      refine v_getI hz fX8_79 (by assumption) dX8_letter_49 ?_
      refine v_top (y := nI (n + 1)) u2_eq ?_
      exact v_iret hz hr dX8_letter_52 ⟨(Fo.rf.put (by decide) (by decide)).put (by decide) (by decide), fun q => absurd c8 q, fun q => ⟨fun e => absurd e (by omega), fun _ => ⟨rfl, by
            obtain ⟨c, rfl, hc1, hc2⟩ := rng_N (by omega) (by omega) q
            rw [nI_clamp (by omega)]
            have k0 : ∀ f, f ≠ 0 → u2 (u2 I (A 131) n (nI c)) (A 130) 0 (nI (n + 1)) (A 130) f = I (A 130) f := fun f hf => by rw [u2_at hf, u2_ne (show A 130 ≠ A 131 from hm.ne 0 1 (by decide) (by decide) (by decide))]
            have k5 : u2 (u2 I (A 131) n (nI c)) (A 130) 0 (nI (n + 1)) (A 135) = I (A 135) := by rw [u2_ne (show A 135 ≠ A 130 from hm.ne 5 0 (by decide) (by decide) (by decide)), u2_ne (show A 135 ≠ A 131 from hm.ne 5 1 (by decide) (by decide) (by decide))]
            refine ⟨⟨by omega, u2_eq, fun j hj => ?_⟩, ⟨h2, by rw [k0 2 (by decide)]; exact h3, fun i hi => ⟨((h4 i hi).1.put1 hm).put0 hm, by rw [k5]; exact (h4 i hi).2⟩⟩, ⟨by rw [k0 3 (by decide)]; exact h5, by rw [k0 13 (by decide)]; exact h6, fun q => ((h7 q).put1 hm).put0 hm⟩, ⟨⟨by rw [k0 9 (by decide)]; exact h8, h8a⟩, by rw [k0 10 (by decide)]; exact h9, h10⟩, by rw [k0 11 (by decide)]; exact h11, by rw [k0 12 (by decide)]; exact h12⟩
            rw [u2_ne (show A 131 ≠ A 130 from hm.ne 1 0 (by decide) (by decide) (by decide))]
            by_cases e : j = n
            · rw [e, u2_eq, vup_s]; exact ⟨rfl, hc2⟩
            · rw [u2_at e, vup_n e]; exact h0b j (by omega)⟩⟩⟩
    · refine v_si (v := (-1004)) hz dX8_letter_24 (by decide) ?_
      exact v_iret hz hr dX8_letter_27 ⟨Fo.rf, fun q => absurd c8 q, fun _ => ⟨fun _ => ⟨rfl, hs⟩, fun q => absurd q (by omega)⟩⟩
  · refine v_si (v := (-1002)) hz dX8_letter_11 (by decide) ?_
    exact v_iret hz hr dX8_letter_14 ⟨Fo.rf, fun _ => ⟨rfl, hs⟩, fun q => absurd q c8⟩
set_option maxHeartbeats 4000000 in
set_option maxRecDepth 100000 in
theorem cX8_blank_ok (l : Launch) (g : Gz) (κ : Kz) (I : Iz) (R : Rz) (J : Jz) (A : Nat → Nat) (hm : LM κ R A) (pg : Nat → Nat) (n kn : Nat) (ks : Nat → Sg) (tm : Nat → Int32) (T : Sg) (qa w bd : Nat) (te td : Int32) (hs : MS I A pg n kn ks tm T qa w bd te td) : Ct l mX8_blank 0 0 g [.ref (A 130)] κ I R J (Si κ R J (fun r I1 => Fo A I I1 ∧ r = nI n ∧ MS I1 A pg 0 kn ks tm T qa w bd te td)) := by
  refine ct_of (by decide) (Nat.le_of_ble_eq_true rfl) ?_
  intro z hz hr hrc hrs
  have hz : Am z cX8_blank RX8 2 0 := hz
  have hr : Rt z yX8_blank (some .int) 0 0 _ := hr
  show V z 2 0 0 0 [(0, .ref (A 130))] [] κ I R J
  have hk := hm.k
  have ho := hm.o
  obtain ⟨⟨h0, h0a, h0b⟩, ⟨h2, h3, h4⟩, ⟨h5, h6, h7⟩, ⟨⟨h8, h8a⟩, h9, h10⟩, h11, h12⟩ := id hs
  have k0 : ∀ f, f ≠ 0 → u2 I (A 130) 0 (nI 0) (A 130) f = I (A 130) f := fun f hf => u2_at hf
  refine v_aload_n hz dX8_blank_0 rfl ?_
  refine v_getI hz fX8_79 (by assumption) dX8_blank_1 ?_
  refine v_top h0a ?_
  refine v_istore_n hz dX8_blank_4 (by decide) rfl ?_
  refine v_aload_n hz dX8_blank_5 rfl ?_
  refine v_ic (v := nI 0) hz dX8_blank_6 (by decide) ?_
  refine v_putI hz fX8_79 (by assumption) dX8_blank_7 ?_
  refine v_iload_n hz dX8_blank_10 rfl ?_
  exact v_iret hz hr dX8_blank_11 ⟨Fo.rf.put (by decide) (by decide), rfl, ⟨⟨by decide, u2_eq, fun j hj => absurd hj (Nat.not_lt_zero j)⟩, ⟨h2, by rw [k0 2 (by decide)]; exact h3, fun i hi => ⟨(h4 i hi).1.put0 hm, by rw [show u2 I (A 130) 0 (nI 0) (A 135) = I (A 135) from u2_ne (show A 135 ≠ A 130 from hm.ne 5 0 (by decide) (by decide) (by decide))]; exact (h4 i hi).2⟩⟩, ⟨by rw [k0 3 (by decide)]; exact h5, by rw [k0 13 (by decide)]; exact h6, fun q => (h7 q).put0 hm⟩, ⟨⟨by rw [k0 9 (by decide)]; exact h8, h8a⟩, by rw [k0 10 (by decide)]; exact h9, h10⟩, by rw [k0 11 (by decide)]; exact h11, by rw [k0 12 (by decide)]; exact h12⟩⟩
set_option maxHeartbeats 4000000 in
set_option maxRecDepth 100000 in
theorem cX8_weight_ok (l : Launch) (g : Gz) (κ : Kz) (I : Iz) (R : Rz) (J : Jz) (A : Nat → Nat) (hm : LM κ R A) (pg : Nat → Nat) (n kn : Nat) (ks : Nat → Sg) (tm : Nat → Int32) (T : Sg) (qa w bd : Nat) (te td : Int32) (hs : MS I A pg n kn ks tm T qa w bd te td) (x : Int32) : Ct l mX8_weight 0 0 g [.ref (A 130), .int x] κ I R J (Si κ R J (fun r I1 => Fo A I I1 ∧ (¬ (nI 1 ≤ x ∧ x ≤ nI 20) → r = -1002 ∧ MS I1 A pg n kn ks tm T qa w bd te td) ∧ ((nI 1 ≤ x ∧ x ≤ nI 20) → r = nI w ∧ MS I1 A pg n kn ks tm T qa x.toNatClampNeg bd te td))) := by
  refine ct_of (by decide) (Nat.le_of_ble_eq_true rfl) ?_
  intro z hz hr hrc hrs
  have hz : Am z cX8_weight RX8 3 1 := hz
  have hr : Rt z yX8_weight (some .int) 0 0 _ := hr
  show V z 3 0 0 0 [(0, .ref (A 130)), (1, .int x)] [] κ I R J
  have hk := hm.k
  have ho := hm.o
  obtain ⟨⟨h0, h0a, h0b⟩, ⟨h2, h3, h4⟩, ⟨h5, h6, h7⟩, ⟨⟨h8, h8a⟩, h9, h10⟩, h11, h12⟩ := id hs
  refine v_iload_n hz dX8_weight_0 rfl ?_
  refine v_ic (v := nI 1) hz dX8_weight_1 (by decide) ?_
  refine v_bi (v := nI 20) hz dX8_weight_2 (by decide) ?_
  refine v_callSi hz lX8_75 (cX8_within_ok _ _ _ _ _ _ _ _ _) rfl rfl (Nat.le_of_ble_eq_true rfl) (by decide) ⟨Nat.zero_le _, Nat.zero_le _⟩ dX8_weight_4 (fun r I1 h4c => ?_)
  obtain ⟨rfl, eI⟩ := h4c
  rw [eI]
  first | with_reducible refine v_if_neB hz 14 dX8_weight_7 (by decide) (fun c7 => ?_) (fun c7 => ?_) | with_reducible refine v_if_neN hz 14 (by omega) dX8_weight_7 (by decide) (fun c7 => ?_) (fun c7 => ?_) | refine v_if_ne hz 14 dX8_weight_7 (by decide) (fun c7 => ?_) (fun c7 => ?_)
  · refine v_aload_n hz dX8_weight_14 rfl ?_
    refine v_getI hz fX8_28 (by assumption) dX8_weight_15 ?_
    refine v_top h8 ?_
    refine v_istore_n hz dX8_weight_18 (by decide) rfl ?_
    refine v_aload_n hz dX8_weight_19 rfl ?_
    refine v_iload_n hz dX8_weight_20 rfl ?_
    refine v_putI hz fX8_28 (by assumption) dX8_weight_21 ?_
    refine v_iload_n hz dX8_weight_24 rfl ?_
    exact v_iret hz hr dX8_weight_25 ⟨Fo.rf.put (by decide) (by decide), fun q => absurd c7 q, fun q => ⟨rfl, by
          obtain ⟨c, rfl, hc1, hc2⟩ := rng_N (by omega) (by omega) q
          rw [nI_clamp (by omega)]
          have k0 : ∀ f, f ≠ 9 → u2 I (A 130) 9 (nI c) (A 130) f = I (A 130) f := fun f hf => u2_at hf
          exact ⟨⟨h0, by rw [k0 0 (by decide)]; exact h0a, fun j hj => by rw [show u2 I (A 130) 9 (nI c) (A 131) = I (A 131) from u2_ne (show A 131 ≠ A 130 from hm.ne 1 0 (by decide) (by decide) (by decide))]; exact h0b j hj⟩, ⟨h2, by rw [k0 2 (by decide)]; exact h3, fun i hi => ⟨(h4 i hi).1.put0 hm, by rw [show u2 I (A 130) 9 (nI c) (A 135) = I (A 135) from u2_ne (show A 135 ≠ A 130 from hm.ne 5 0 (by decide) (by decide) (by decide))]; exact (h4 i hi).2⟩⟩, ⟨by rw [k0 3 (by decide)]; exact h5, by rw [k0 13 (by decide)]; exact h6, fun q => (h7 q).put0 hm⟩, ⟨⟨u2_eq, hc1, hc2⟩, by rw [k0 10 (by decide)]; exact h9, h10⟩, by rw [k0 11 (by decide)]; exact h11, by rw [k0 12 (by decide)]; exact h12⟩⟩⟩
  · refine v_si (v := (-1002)) hz dX8_weight_10 (by decide) ?_
    exact v_iret hz hr dX8_weight_13 ⟨Fo.rf, fun _ => ⟨rfl, hs⟩, fun q => absurd q c7⟩
set_option maxHeartbeats 4000000 in
set_option maxRecDepth 100000 in
theorem cX8_bound_ok (l : Launch) (g : Gz) (κ : Kz) (I : Iz) (R : Rz) (J : Jz) (A : Nat → Nat) (hm : LM κ R A) (pg : Nat → Nat) (n kn : Nat) (ks : Nat → Sg) (tm : Nat → Int32) (T : Sg) (qa w bd : Nat) (te td : Int32) (hs : MS I A pg n kn ks tm T qa w bd te td) (x : Int32) : Ct l mX8_bound 0 0 g [.ref (A 130), .int x] κ I R J (Si κ R J (fun r I1 => Fo A I I1 ∧ (¬ (nI 0 ≤ x ∧ x ≤ nI 1000) → r = -1002 ∧ MS I1 A pg n kn ks tm T qa w bd te td) ∧ ((nI 0 ≤ x ∧ x ≤ nI 1000) → r = nI bd ∧ MS I1 A pg n kn ks tm T qa w x.toNatClampNeg te td))) := by
  refine ct_of (by decide) (Nat.le_of_ble_eq_true rfl) ?_
  intro z hz hr hrc hrs
  have hz : Am z cX8_bound RX8 3 1 := hz
  have hr : Rt z yX8_bound (some .int) 0 0 _ := hr
  show V z 3 0 0 0 [(0, .ref (A 130)), (1, .int x)] [] κ I R J
  have hk := hm.k
  have ho := hm.o
  obtain ⟨⟨h0, h0a, h0b⟩, ⟨h2, h3, h4⟩, ⟨h5, h6, h7⟩, ⟨⟨h8, h8a⟩, h9, h10⟩, h11, h12⟩ := id hs
  refine v_iload_n hz dX8_bound_0 rfl ?_
  refine v_ic (v := nI 0) hz dX8_bound_1 (by decide) ?_
  refine v_si (v := nI 1000) hz dX8_bound_2 (by decide) ?_
  refine v_callSi hz lX8_75 (cX8_within_ok _ _ _ _ _ _ _ _ _) rfl rfl (Nat.le_of_ble_eq_true rfl) (by decide) ⟨Nat.zero_le _, Nat.zero_le _⟩ dX8_bound_5 (fun r I1 h5c => ?_)
  obtain ⟨rfl, eI⟩ := h5c
  rw [eI]
  first | with_reducible refine v_if_neB hz 15 dX8_bound_8 (by decide) (fun c8 => ?_) (fun c8 => ?_) | with_reducible refine v_if_neN hz 15 (by omega) dX8_bound_8 (by decide) (fun c8 => ?_) (fun c8 => ?_) | refine v_if_ne hz 15 dX8_bound_8 (by decide) (fun c8 => ?_) (fun c8 => ?_)
  · refine v_aload_n hz dX8_bound_15 rfl ?_
    refine v_getI hz fX8_32 (by assumption) dX8_bound_16 ?_
    refine v_top h9 ?_
    refine v_istore_n hz dX8_bound_19 (by decide) rfl ?_
    refine v_aload_n hz dX8_bound_20 rfl ?_
    refine v_iload_n hz dX8_bound_21 rfl ?_
    refine v_putI hz fX8_32 (by assumption) dX8_bound_22 ?_
    refine v_iload_n hz dX8_bound_25 rfl ?_
    exact v_iret hz hr dX8_bound_26 ⟨Fo.rf.put (by decide) (by decide), fun q => absurd c8 q, fun q => ⟨rfl, by
          obtain ⟨c, rfl, hc1, hc2⟩ := rng_N (by omega) (by omega) q
          rw [nI_clamp (by omega)]
          have k0 : ∀ f, f ≠ 10 → u2 I (A 130) 10 (nI c) (A 130) f = I (A 130) f := fun f hf => u2_at hf
          exact ⟨⟨h0, by rw [k0 0 (by decide)]; exact h0a, fun j hj => by rw [show u2 I (A 130) 10 (nI c) (A 131) = I (A 131) from u2_ne (show A 131 ≠ A 130 from hm.ne 1 0 (by decide) (by decide) (by decide))]; exact h0b j hj⟩, ⟨h2, by rw [k0 2 (by decide)]; exact h3, fun i hi => ⟨(h4 i hi).1.put0 hm, by rw [show u2 I (A 130) 10 (nI c) (A 135) = I (A 135) from u2_ne (show A 135 ≠ A 130 from hm.ne 5 0 (by decide) (by decide) (by decide))]; exact (h4 i hi).2⟩⟩, ⟨by rw [k0 3 (by decide)]; exact h5, by rw [k0 13 (by decide)]; exact h6, fun q => (h7 q).put0 hm⟩, ⟨⟨by rw [k0 9 (by decide)]; exact h8, h8a⟩, u2_eq, hc2⟩, by rw [k0 11 (by decide)]; exact h11, by rw [k0 12 (by decide)]; exact h12⟩⟩⟩
  · refine v_si (v := (-1002)) hz dX8_bound_11 (by decide) ?_
    exact v_iret hz hr dX8_bound_14 ⟨Fo.rf, fun _ => ⟨rfl, hs⟩, fun q => absurd q c8⟩
set_option maxHeartbeats 4000000 in
set_option maxRecDepth 100000 in
theorem cX8_isKept_ok (l : Launch) (g : Gz) (κ : Kz) (I : Iz) (R : Rz) (J : Jz) (A : Nat → Nat) (hm : LM κ R A) (kn : Nat) (x : Int32) (hkn : kn ≤ 12) (h3 : I (A 130) 2 = nI kn) : Ct l mX8_isKept 0 0 g [.ref (A 130), .int x] κ I R J (Si κ R J (fun r I1 => r = bz (0 ≤ x ∧ x < nI kn) ∧ I1 = I)) := by
  refine ct_of (by decide) (Nat.le_of_ble_eq_true rfl) ?_
  intro z hz hr hrc hrs
  have hz : Am z cX8_isKept RX8 2 1 := hz
  have hr : Rt z yX8_isKept (some .boolean) 0 0 _ := hr
  show V z 2 0 0 0 [(0, .ref (A 130)), (1, .int x)] [] κ I R J
  have hk := hm.k
  have ho := hm.o
  refine v_iload_n hz dX8_isKept_0 rfl ?_
  refine v_ic (v := nI 0) hz dX8_isKept_1 (by decide) ?_
  refine v_aload_n hz dX8_isKept_2 rfl ?_
  refine v_getI hz fX8_107 (by assumption) dX8_isKept_3 ?_
  refine v_top h3 ?_
  refine v_ic (v := nI 1) hz dX8_isKept_6 (by decide) ?_
  refine v_isub hz dX8_isKept_7 ?_
  refine v_callSi hz lX8_75 (cX8_within_ok _ _ _ _ _ _ _ _ _) rfl rfl (Nat.le_of_ble_eq_true rfl) (by decide) ⟨Nat.zero_le _, Nat.zero_le _⟩ dX8_isKept_8 (fun r I1 h8 => ?_)
  obtain ⟨rfl, rfl⟩ := h8
  refine v_top (kpt_w (by omega)) ?_
  exact v_zret hz hr dX8_isKept_11 (by first | exact Or.inl rfl | exact Or.inr rfl | exact bz_01) ⟨rfl, rfl⟩
