/-! ===== the reference: ranks, what is covered ===== -/
theorem QF.put {A : Nat → Nat} {I I1 : Iz} (h : QF A I I1) {t j : Nat} {x : Int32} (ht : t ∈ qT) (hne : A 130 ≠ A t) : QF A I (u2 I1 (A t) j x) := ⟨h.1.put ht, fun f a b c => by rw [u2_ne hne]; exact h.2 f a b c⟩
theorem QF.putF {A : Nat → Nat} {I I1 : Iz} (h : QF A I I1) {j : Nat} {x : Int32} (hj : j = 14 ∨ j = 18 ∨ j = 24) : QF A I (u2 I1 (A 130) j x) := ⟨h.1.put (by decide), fun f a b c => by rw [u2_at (by omega)]; exact h.2 f a b c⟩
theorem QF.one {A : Nat → Nat} {I I1 : Iz} {t : Nat} (ht : t ∈ qT) (hne : A 130 ≠ A t) (h : ∀ c, c ≠ A t → I1 c = I c) : QF A I I1 := ⟨fun b hb => h b (hb t ht), fun f _ _ _ => by rw [h _ hne]⟩
def rkO (I : Iz) (A : Nat → Nat) (w bd : Nat) (ks : Nat → Sg) (T : Sg) (a : Nat) : Prop := I (A 130) 24 = nI (rkF w bd ks T a).1 ∧ (∀ j, j < (rkF w bd ks T a).1 → I (A 155) j = nI ((rkF w bd ks T a).2 j)) ∧ ∀ i, i < a → I (A 156) i = nI (scF w ks T i) ∧ I (A 157) i = nI (tgF w ks T i) ∧ tgF w ks T i ≤ 16
theorem scF_le (w : Nat) (ks : Nat → Sg) (T : Sg) (i : Nat) : scF w ks T i ≤ 1000 := Nat.sub_le _ _
theorem rkF_le (w bd : Nat) (ks : Nat → Sg) (T : Sg) (a : Nat) : (rkF w bd ks T a).1 ≤ a := rkk_le _ _ _ a
theorem rkF_lt (w bd : Nat) (ks : Nat → Sg) (T : Sg) (a j : Nat) (h : j < (rkF w bd ks T a).1) : (rkF w bd ks T a).2 j < a := rkk_lt _ _ _ a j h
theorem rkF_y {w bd : Nat} {ks : Nat → Sg} {T : Sg} {a : Nat} (h : bd ≤ scF w ks T a) : rkF w bd ks T (a + 1) = ((rkF w bd ks T a).1 + 1, ins (rkF w bd ks T a).2 (rin (scF w ks T) (tgF w ks T) (rkF w bd ks T a).2 a (rkF w bd ks T a).1) a) := if_pos (show mtB w bd ks T a = true from decide_eq_true h)
theorem rkF_n {w bd : Nat} {ks : Nat → Sg} {T : Sg} {a : Nat} (h : ¬ bd ≤ scF w ks T a) : rkF w bd ks T (a + 1) = rkF w bd ks T a := if_neg (show ¬ mtB w bd ks T a = true from fun q => h (of_decide_eq_true q))
set_option maxHeartbeats 4000000 in
set_option maxRecDepth 100000 in
theorem lp_layRanks_in {z : Zz} {κ : Kz} {I0 : Iz} {R : Rz} {J : Jz} {A : Nat → Nat} (hm : LM κ R A) (hz : Am z cX8_layRanks RX8 3 7) {n x : Nat} {r s t : Nat → Nat} (hn : n < 12) (hx : x < 12) (hst : ∀ i, i < x + 1 → I0 (A 156) i = nI (s i) ∧ s i ≤ 1000 ∧ I0 (A 157) i = nI (t i) ∧ t i ≤ 16) (hr0 : ∀ i, i < n → r i < x)
    (K : ∀ (I : Iz) (a : Nat), a ≤ n → (∀ c, c ≠ A 155 → I c = I0 c) → (∀ i, i < a → I (A 155) i = nI (r i)) → (∀ i, a < i → i ≤ n → I (A 155) i = nI (r (i - 1))) → a = rin s t r x n → V z 3 0 0 97 [(0, .ref (A 130)), (1, .int (nI x)), (2, .int (nI a))] [] κ I R J) :
    ∀ (a : Nat) (I : Iz), a ≤ n → (∀ c, c ≠ A 155 → I c = I0 c) → (∀ i, i < a → I (A 155) i = nI (r i)) → (∀ i, a < i → i ≤ n → I (A 155) i = nI (r (i - 1))) → rin s t r x a = rin s t r x n → V z 3 0 0 57 [(0, .ref (A 130)), (1, .int (nI x)), (2, .int (nI a))] [] κ I R J := by
  have hk := hm.k
  have ho := hm.o
  have hR25 := hm.r25
  have hK25 := hm.k25
  have hN25 := hm.n25
  have hO25 := hm.o25
  have hR26 := hm.r26
  have hK26 := hm.k26
  have hN26 := hm.n26
  have hO26 := hm.o26
  have hR27 := hm.r27
  have hK27 := hm.k27
  have hN27 := hm.n27
  have hO27 := hm.o27
  have e56 : A 156 ≠ A 155 := hm.ne 26 25 (by decide) (by decide) (by decide)
  have e57 : A 157 ≠ A 155 := hm.ne 27 25 (by decide) (by decide) (by decide)
  intro a
  induction a with
  | zero =>
    intro I ha hF hlo hhi hri
    refine v_iload_n hz dX8_layRanks_57 rfl ?_
    refine v_if_leN hz 97 (by omega) dX8_layRanks_58 (by decide) (fun c19 => ?_) (fun c19 => ?_)
    · exact K _ 0 (by omega) hF hlo hhi hri
    · exact absurd c19 (by omega)
  | succ a ih =>
  intro I ha hF hlo hhi hri
  have ra := hr0 a (by omega)
  obtain ⟨sx1, sx2, sx3, sx4⟩ := hst x (by omega)
  obtain ⟨sr1, sr2, sr3, sr4⟩ := hst (r a) (by omega)
  refine v_iload_n hz dX8_layRanks_57 rfl ?_
  first | with_reducible refine v_if_leN hz 97 (by omega) dX8_layRanks_58 (by decide) (fun c58 => ?_) (fun c58 => ?_) | refine v_if_le hz 97 dX8_layRanks_58 (by decide) (fun c58 => ?_) (fun c58 => ?_)
  · exact absurd c58 (by omega)
  · refine v_aload_n hz dX8_layRanks_61 rfl ?_
    refine v_iload_n hz dX8_layRanks_62 rfl ?_
    refine v_aload_n hz dX8_layRanks_63 rfl ?_
    refine v_getR hz fX8_59 (by assumption) (by assumption) dX8_layRanks_64 ?_
    refine v_iload_n hz dX8_layRanks_67 rfl ?_
    refine v_ic (v := nI 1) hz dX8_layRanks_68 (by decide) ?_
    refine v_isubN hz (by omega) dX8_layRanks_69 ?_
    refine v_ialdN hz (by assumption) (by assumption) (by omega) (by decide) dX8_layRanks_70 ?_
    refine v_top (y := nI (r a)) (hlo a (by omega)) ?_
    refine v_callVi hz lX8_248 (cX8_isAhead_ok _ _ _ _ _ _ A hm x (r a) (s x) (s (r a)) (t x) (t (r a)) hx (by omega) sx2 sr2 sx4 sr4 (by rw [hF _ e56]; exact sx1) (by rw [hF _ e56]; exact sr1) (by rw [hF _ e57]; exact sx3) (by rw [hF _ e57]; exact sr3)) (by assumption) rfl rfl (Nat.le_of_ble_eq_true rfl) (by decide) ⟨Nat.zero_le _, Nat.zero_le _⟩ dX8_layRanks_71 (fun r I1 h71 => ?_)
    obtain ⟨rfl, eIh71⟩ := h71
    rw [eIh71]
    unfold rkI
    first | with_reducible refine v_if_eqB hz 97 dX8_layRanks_74 (by decide) (fun c74 => ?_) (fun c74 => ?_) | with_reducible refine v_if_eqN hz 97 (by omega) dX8_layRanks_74 (by decide) (fun c74 => ?_) (fun c74 => ?_) | refine v_if_eq hz 97 dX8_layRanks_74 (by decide) (fun c74 => ?_) (fun c74 => ?_)
    · exact v_sub (K _ (a + 1) (by omega) hF hlo hhi (by rw [← hri, rin, if_neg c74])) ⟨rfl, rfl, rfl, trivial⟩
    · refine v_aload_n hz dX8_layRanks_77 rfl ?_
      refine v_getR hz fX8_59 (by assumption) (by assumption) dX8_layRanks_78 ?_
      refine v_iload_n hz dX8_layRanks_81 rfl ?_
      refine v_aload_n hz dX8_layRanks_82 rfl ?_
      refine v_getR hz fX8_59 (by assumption) (by assumption) dX8_layRanks_83 ?_
      refine v_iload_n hz dX8_layRanks_86 rfl ?_
      refine v_ic (v := nI 1) hz dX8_layRanks_87 (by decide) ?_
      refine v_isubN hz (by omega) dX8_layRanks_88 ?_
      refine v_ialdN hz (by assumption) (by assumption) (by omega) (by decide) dX8_layRanks_89 ?_
      refine v_top (y := nI (r a)) (hlo a (by omega)) ?_
      refine v_iastN hz (by assumption) (by assumption) (by omega) (by decide) dX8_layRanks_90 ?_
      refine v_iincE hz dX8_layRanks_91 rfl (pk_m1 a) (by decide) rfl ?_
      refine v_goto hz 57 dX8_layRanks_94 (by decide) ?_
      exact v_sub (ih _ (by omega) (fun c hc => by rw [u2_ne hc]; exact hF c hc) (fun i hi => by rw [u2_at (by omega)]; exact hlo i (by omega)) (fun i h1 h2 => by
            by_cases e : i = a + 1
            · subst e; rw [u2_eq]; rfl
            · rw [u2_at e]; exact hhi i (by omega) h2) (by rw [← hri, rin, if_pos c74])) ⟨rfl, rfl, rfl, trivial⟩
set_option maxHeartbeats 4000000 in
set_option maxRecDepth 100000 in
theorem lp_layRanks {z : Zz} {κ : Kz} {I0 : Iz} {R : Rz} {J : Jz} {A : Nat → Nat} (hm : LM κ R A) (hz : Am z cX8_layRanks RX8 3 7) {pg : Nat → Nat} {n kn : Nat} {ks : Nat → Sg} {tm : Nat → Int32} {T : Sg} {qa w bd : Nat} {te td : Int32} (hs : MS I0 A pg n kn ks tm T qa w bd te td) (hv : ∀ i, i < kn → okQ (ks i)) (hvT : 0 < qa → okQ T) (hqa : 0 < qa) (hr : Rt z yX8_layRanks none 0 0 (Sv κ R J (fun I1 => QF A I0 I1 ∧ rkO I1 A w bd ks T kn))) :
    ∀ (m a : Nat) (I : Iz), a ≤ kn → kn + 1 ≤ a + m → QF A I0 I → rkO I A w bd ks T a → V z 3 0 0 7 [(0, .ref (A 130)), (1, .int (nI a))] [] κ I R J := by
  have hk := hm.k
  have ho := hm.o
  have hR25 := hm.r25
  have hK25 := hm.k25
  have hN25 := hm.n25
  have hO25 := hm.o25
  have hR26 := hm.r26
  have hK26 := hm.k26
  have hN26 := hm.n26
  have hO26 := hm.o26
  have hR27 := hm.r27
  have hK27 := hm.k27
  have hN27 := hm.n27
  have hO27 := hm.o27
  intro m
  induction m with
  | zero => intro a I ha hm9; exact absurd hm9 (by omega)
  | succ m ih =>
  intro a I ha hm9 hQ hrk
  have hsI := hQ.ms hm hs
  obtain ⟨⟨h0, h0a, h0b⟩, ⟨h2, h3, h4⟩, ⟨h5, h6, h7⟩, ⟨⟨h8, h8a⟩, h9, h10⟩, h11, h12⟩ := id hsI
  obtain ⟨k1, k2, k3⟩ := id hrk
  have rl := rkF_le w bd ks T a
  have sl := scF_le w ks T a
  refine v_iload_n hz dX8_layRanks_7 rfl ?_
  refine v_aload_n hz dX8_layRanks_8 rfl ?_
  refine v_getI hz fX8_107 (by assumption) dX8_layRanks_9 ?_
  refine v_top h3 ?_
  first | with_reducible refine v_icmp_geN hz 120 (by omega) (by omega) dX8_layRanks_12 (by decide) (fun c12 => ?_) (fun c12 => ?_) | refine v_icmp_ge hz 120 dX8_layRanks_12 (by decide) (fun c12 => ?_) (fun c12 => ?_)
  · exact v_vret hz hr dX8_layRanks_120 ⟨hQ, by rw [show kn = a by omega]; exact hrk⟩
  · refine v_aload_n hz dX8_layRanks_15 rfl ?_
    refine v_getR hz fX8_62 (by assumption) (by assumption) dX8_layRanks_16 ?_
    refine v_iload_n hz dX8_layRanks_19 rfl ?_
    refine v_aload_n hz dX8_layRanks_20 rfl ?_
    refine v_iload_n hz dX8_layRanks_21 rfl ?_
    refine v_bi (v := nI 12) hz dX8_layRanks_22 (by decide) ?_
    refine v_callVi hz lX8_204 (cX8_scoreOf_ok _ _ _ _ _ _ A hm w a 12 (ks a) T ⟨h8, h8a⟩ (h4 a (by omega)).1 (h7 hqa) (hv a (by omega)).1.1) (by assumption) rfl rfl (Nat.le_of_ble_eq_true rfl) (by decide) ⟨Nat.zero_le _, Nat.zero_le _⟩ dX8_layRanks_24 (fun r I2 q24 => ?_)
    obtain ⟨rfl, hF⟩ := q24
    refine v_iastN hz (by assumption) (by assumption) (by omega) (by decide) dX8_layRanks_27 ?_
    refine v_gen (fun I3 hI3 => ?_)
    have hQ3 : QF A I0 I3 := by rw [hI3]; exact (hQ.tr (QF.of hm hF)).put (by decide) (show A 130 ≠ A 156 from hm.ne 0 26 (by decide) (by decide) (by decide))
    have hs3 := hQ3.ms hm hs
    have r30 : I3 (A 130) = I (A 130) := by rw [hI3, u2_ne (show A 130 ≠ A 156 from hm.ne 0 26 (by decide) (by decide) (by decide))]; exact hm.fm hF 0 (by decide) (by decide)
    have r35 : I3 (A 155) = I (A 155) := by rw [hI3, u2_ne (show A 155 ≠ A 156 from hm.ne 25 26 (by decide) (by decide) (by decide))]; exact hm.fm hF 25 (by decide) (by decide)
    have r37 : I3 (A 157) = I (A 157) := by rw [hI3, u2_ne (show A 157 ≠ A 156 from hm.ne 27 26 (by decide) (by decide) (by decide))]; exact hm.fm hF 27 (by decide) (by decide)
    have r36 : I2 (A 156) = I (A 156) := hm.fm hF 26 (by decide) (by decide)
    refine v_aload_n hz dX8_layRanks_28 rfl ?_
    refine v_getR hz fX8_65 (by assumption) (by assumption) dX8_layRanks_29 ?_
    refine v_iload_n hz dX8_layRanks_32 rfl ?_
    refine v_aload_n hz dX8_layRanks_33 rfl ?_
    refine v_iload_n hz dX8_layRanks_34 rfl ?_
    refine v_callVi hz lX8_239 (cX8_tagSteps_ok _ _ _ _ _ _ A hm a w (ks a) T hs3.2.2.2.1.1 (hs3.2.1.2.2 a (by omega)).1 (hs3.2.2.1.2.2 hqa) (hv a (by omega)) (hvT hqa)) (by assumption) rfl rfl (Nat.le_of_ble_eq_true rfl) (by decide) ⟨Nat.zero_le _, Nat.zero_le _⟩ dX8_layRanks_35 (fun r I4 q35 => ?_)
    obtain ⟨rfl, hQS, t16⟩ := q35
    refine v_iastN hz (by assumption) (by assumption) (by omega) (by decide) dX8_layRanks_38 ?_
    refine v_gen (fun I5 hI5 => ?_)
    have hQ5 : QF A I0 I5 := by rw [hI5]; exact (hQ3.tr hQS.qf).put (by decide) (show A 130 ≠ A 157 from hm.ne 0 27 (by decide) (by decide) (by decide))
    have m5 : I5 (A 130) 24 = nI (rkF w bd ks T a).1 := by rw [hI5, u2_ne (show A 130 ≠ A 157 from hm.ne 0 27 (by decide) (by decide) (by decide)), hQS.2 24 (by decide), r30]; exact k1
    have s5 : I5 (A 155) = I (A 155) := by rw [hI5, u2_ne (show A 155 ≠ A 157 from hm.ne 25 27 (by decide) (by decide) (by decide)), hm.fm hQS.1 25 (by decide) (by decide)]; exact r35
    have F5 : ∀ i, i < a + 1 → I5 (A 156) i = nI (scF w ks T i) ∧ I5 (A 157) i = nI (tgF w ks T i) ∧ tgF w ks T i ≤ 16 := fun i hi => by
      have p4 : I4 (A 156) = I3 (A 156) := hm.fm hQS.1 26 (by decide) (by decide)
      have p5 : I4 (A 157) = I3 (A 157) := hm.fm hQS.1 27 (by decide) (by decide)
      by_cases e : i = a
      · rw [e, hI5, u2_ne (show A 156 ≠ A 157 from hm.ne 26 27 (by decide) (by decide) (by decide)), u2_eq, p4, hI3, u2_eq]
        exact ⟨rfl, rfl, t16⟩
      · rw [hI5, u2_ne (show A 156 ≠ A 157 from hm.ne 26 27 (by decide) (by decide) (by decide)), u2_at e, p4, p5, r37, hI3, u2_at e, r36]
        exact k3 i (by omega)
    have h9' : I5 (A 130) 10 = nI bd := (hQ5.ms hm hs).2.2.2.1.2.1
    refine v_aload_n hz dX8_layRanks_39 rfl ?_
    refine v_getR hz fX8_62 (by assumption) (by assumption) dX8_layRanks_40 ?_
    refine v_iload_n hz dX8_layRanks_43 rfl ?_
    refine v_ialdN hz (by assumption) (by assumption) (by omega) (by decide) dX8_layRanks_44 ?_
    refine v_top (y := nI (scF w ks T a)) (F5 a (by omega)).1 ?_
    refine v_aload_n hz dX8_layRanks_45 rfl ?_
    refine v_getI hz fX8_32 (by assumption) dX8_layRanks_46 ?_
    refine v_top h9' ?_
    first | with_reducible refine v_icmp_ltN hz 114 (by omega) (by omega) dX8_layRanks_49 (by decide) (fun c49 => ?_) (fun c49 => ?_) | refine v_icmp_lt hz 114 dX8_layRanks_49 (by decide) (fun c49 => ?_) (fun c49 => ?_)
    · first | refine v_iincN hz 1 dX8_layRanks_114 (by decide) rfl (by decide) rfl ?_ | refine v_iinc hz dX8_layRanks_114 rfl (by decide) rfl ?_
      refine v_goto hz 7 dX8_layRanks_117 (by decide) ?_
      refine v_sub (ih (a + 1) _ (by omega) (by omega) hQ5 ?_) ⟨rfl, rfl, trivial⟩
      unfold rkO
      rw [rkF_n (show ¬ bd ≤ scF w ks T a by omega)]
      exact ⟨m5, fun j hj => by rw [s5]; exact k2 j hj, F5⟩
    · refine v_aload_n hz dX8_layRanks_52 rfl ?_
      refine v_getI hz fX8_245 (by assumption) dX8_layRanks_53 ?_
      refine v_top m5 ?_
      refine v_istore_n hz dX8_layRanks_56 (by decide) rfl ?_
      refine v_sub (lp_layRanks_in hm hz (I0 := I5) (n := (rkF w bd ks T a).1) (x := a) (r := (rkF w bd ks T a).2) (s := scF w ks T) (t := tgF w ks T) (by omega) (by omega) (fun i hi => ⟨(F5 i hi).1, scF_le w ks T i, (F5 i hi).2.1, (F5 i hi).2.2⟩) (fun i hi => rkF_lt w bd ks T a i hi) (fun I6 b g1 g2 g3 g4 g5 => ?_) _ I5 (Nat.le_refl _) (fun _ _ => rfl) (fun i hi => by rw [s5]; exact k2 i hi) (fun i a1 a2 => absurd a1 (by omega)) rfl) ⟨rfl, rfl, rfl, trivial⟩
      refine v_aload_n hz dX8_layRanks_97 rfl ?_
      refine v_getR hz fX8_59 (by assumption) (by assumption) dX8_layRanks_98 ?_
      refine v_iload_n hz dX8_layRanks_101 rfl ?_
      refine v_iload_n hz dX8_layRanks_102 rfl ?_
      refine v_iastN hz (by assumption) (by assumption) (by omega) (by decide) dX8_layRanks_103 ?_
      refine v_aload_n hz dX8_layRanks_104 rfl ?_
      refine v_dup hz dX8_layRanks_105 rfl ?_
      refine v_getI hz fX8_245 (by assumption) dX8_layRanks_106 ?_
      refine v_top (y := nI (rkF w bd ks T a).1) (by rw [u2_ne (show A 130 ≠ A 155 from hm.ne 0 25 (by decide) (by decide) (by decide)), g2 _ (show A 130 ≠ A 155 from hm.ne 0 25 (by decide) (by decide) (by decide))]; exact m5) ?_
      refine v_ic (v := nI 1) hz dX8_layRanks_109 (by decide) ?_
      first | with_reducible refine v_iaddN hz dX8_layRanks_110 ?_ | refine v_iadd hz dX8_layRanks_110 ?_
      refine v_putI hz fX8_245 (by assumption) dX8_layRanks_111 ?_
      first | refine v_iincN hz 1 dX8_layRanks_114 (by decide) rfl (by decide) rfl ?_ | refine v_iinc hz dX8_layRanks_114 rfl (by decide) rfl ?_
      refine v_goto hz 7 dX8_layRanks_117 (by decide) ?_
      refine v_sub (ih (a + 1) _ (by omega) (by omega) ((hQ5.tr (QF.one (by decide) (show A 130 ≠ A 155 from hm.ne 0 25 (by decide) (by decide) (by decide)) g2)).put (by decide) (show A 130 ≠ A 155 from hm.ne 0 25 (by decide) (by decide) (by decide)) |>.putF (Or.inr (Or.inr rfl))) ?_) ⟨rfl, rfl, trivial⟩
      unfold rkO
      rw [rkF_y (show bd ≤ scF w ks T a by omega)]
      refine ⟨u2_eq, fun j hj => ?_, fun i hi => by rw [u2_ne (show A 156 ≠ A 130 from hm.ne 26 0 (by decide) (by decide) (by decide)), u2_ne (show A 156 ≠ A 155 from hm.ne 26 25 (by decide) (by decide) (by decide)), u2_ne (show A 157 ≠ A 130 from hm.ne 27 0 (by decide) (by decide) (by decide)), u2_ne (show A 157 ≠ A 155 from hm.ne 27 25 (by decide) (by decide) (by decide)), g2 _ (show A 156 ≠ A 155 from hm.ne 26 25 (by decide) (by decide) (by decide)), g2 _ (show A 157 ≠ A 155 from hm.ne 27 25 (by decide) (by decide) (by decide))]; exact F5 i hi⟩
      dsimp only at hj ⊢
      rw [u2_ne (show A 155 ≠ A 130 from hm.ne 25 0 (by decide) (by decide) (by decide)), ← g5]
      unfold ins
      by_cases q1 : j < b
      · rw [if_pos q1, u2_at (by omega)]; exact g3 j q1
      · rw [if_neg q1]
        by_cases q2 : j = b
        · rw [if_pos q2, q2, u2_eq]
        · rw [if_neg q2, u2_at q2]; exact g4 j (by omega) (by omega)
set_option maxHeartbeats 4000000 in
set_option maxRecDepth 100000 in
theorem cX8_layRanks_ok (l : Launch) (g : Gz) (κ : Kz) (I : Iz) (R : Rz) (J : Jz) (A : Nat → Nat) (hm : LM κ R A) (pg : Nat → Nat) (n kn : Nat) (ks : Nat → Sg) (tm : Nat → Int32) (T : Sg) (qa w bd : Nat) (te td : Int32) (hs : MS I A pg n kn ks tm T qa w bd te td) (hv : ∀ i, i < kn → okQ (ks i)) (hvT : 0 < qa → okQ T) (hqa : 0 < qa) : Ct l mX8_layRanks 0 0 g [.ref (A 130)] κ I R J (Sv κ R J (fun I1 => QF A I I1 ∧ rkO I1 A w bd ks T kn)) := by
  refine ct_of (by decide) (Nat.le_of_ble_eq_true rfl) ?_
  intro z hz hr hrc hrs
  have hz : Am z cX8_layRanks RX8 3 7 := hz
  have hr : Rt z yX8_layRanks none 0 0 _ := hr
  show V z 3 0 0 0 [(0, .ref (A 130))] [] κ I R J
  have hk := hm.k
  have ho := hm.o
  have hR25 := hm.r25
  have hK25 := hm.k25
  have hN25 := hm.n25
  have hO25 := hm.o25
  have hR26 := hm.r26
  have hK26 := hm.k26
  have hN26 := hm.n26
  have hO26 := hm.o26
  have hR27 := hm.r27
  have hK27 := hm.k27
  have hN27 := hm.n27
  have hO27 := hm.o27
  refine v_aload_n hz dX8_layRanks_0 rfl ?_
  refine v_ic (v := nI 0) hz dX8_layRanks_1 (by decide) ?_
  refine v_putI hz fX8_245 (by assumption) dX8_layRanks_2 ?_
  refine v_ic (v := nI 0) hz dX8_layRanks_5 (by decide) ?_
  refine v_istore_n hz dX8_layRanks_6 (by decide) rfl ?_
  exact v_sub (lp_layRanks hm hz hs hv hvT hqa hr (kn + 1) 0 _ (by omega) (by omega) (QF.rf.putF (Or.inr (Or.inr rfl))) ⟨u2_eq, fun j hj => absurd hj (Nat.not_lt_zero j), fun i hi => absurd hi (Nat.not_lt_zero i)⟩) ⟨rfl, rfl, trivial⟩
set_option maxHeartbeats 4000000 in
set_option maxRecDepth 100000 in
theorem cX8_matchesMany_ok (l : Launch) (g : Gz) (κ : Kz) (I : Iz) (R : Rz) (J : Jz) (A : Nat → Nat) (hm : LM κ R A) (pg : Nat → Nat) (n kn : Nat) (ks : Nat → Sg) (tm : Nat → Int32) (T : Sg) (qa w bd : Nat) (te td : Int32) (hs : MS I A pg n kn ks tm T qa w bd te td) (hv : ∀ i, i < kn → okQ (ks i)) (hvT : 0 < qa → okQ T) (hqa : 0 < qa) : Ct l mX8_matchesMany 0 0 g [.ref (A 130)] κ I R J (Si κ R J (fun r I1 => r = nI (rkF w bd ks T kn).1 ∧ QF A I I1)) := by
  refine ct_of (by decide) (Nat.le_of_ble_eq_true rfl) ?_
  intro z hz hr hrc hrs
  have hz : Am z cX8_matchesMany RX8 1 8 := hz
  have hr : Rt z yX8_matchesMany (some .int) 0 0 _ := hr
  show V z 1 0 0 0 [(0, .ref (A 130))] [] κ I R J
  have hk := hm.k
  have ho := hm.o
  refine v_aload_n hz dX8_matchesMany_0 rfl ?_
  refine v_callVv hz lX8_251 (cX8_layRanks_ok _ _ _ _ _ _ A hm pg n kn ks tm T qa w bd te td hs hv hvT hqa) (by assumption) rfl rfl (Nat.le_of_ble_eq_true rfl) (by decide) ⟨Nat.zero_le _, Nat.zero_le _⟩ dX8_matchesMany_1 (fun I2 q1 => ?_)
  refine v_aload_n hz dX8_matchesMany_4 rfl ?_
  refine v_getI hz fX8_245 (by assumption) dX8_matchesMany_5 ?_
  refine v_top q1.2.1 ?_
  exact v_iret hz hr dX8_matchesMany_8 ⟨rfl, q1.1⟩
set_option maxHeartbeats 4000000 in
set_option maxRecDepth 100000 in
theorem cX8_rank_ok (l : Launch) (g : Gz) (κ : Kz) (I : Iz) (R : Rz) (J : Jz) (A : Nat → Nat) (hm : LM κ R A) (pg : Nat → Nat) (n kn : Nat) (ks : Nat → Sg) (tm : Nat → Int32) (T : Sg) (qa w bd : Nat) (te td : Int32) (hs : MS I A pg n kn ks tm T qa w bd te td) (hv : ∀ i, i < kn → okQ (ks i)) (hvT : 0 < qa → okQ T) (x : Int32) : Ct l mX8_rank 0 0 g [.ref (A 130), .int x] κ I R J (Si κ R J (fun r I1 => r = rnkR kn ks T qa w bd x ∧ QF A I I1)) := by
  refine ct_of (by decide) (Nat.le_of_ble_eq_true rfl) ?_
  intro z hz hr hrc hrs
  have hz : Am z cX8_rank RX8 2 8 := hz
  have hr : Rt z yX8_rank (some .int) 0 0 _ := hr
  show V z 2 0 0 0 [(0, .ref (A 130)), (1, .int x)] [] κ I R J
  have hk := hm.k
  have ho := hm.o
  have hR25 := hm.r25
  have hK25 := hm.k25
  have hN25 := hm.n25
  have hO25 := hm.o25
  obtain ⟨⟨h0, h0a, h0b⟩, ⟨h2, h3, h4⟩, ⟨h5, h6, h7⟩, ⟨⟨h8, h8a⟩, h9, h10⟩, h11, h12⟩ := id hs
  refine v_aload_n hz dX8_rank_0 rfl ?_
  refine v_getI hz fX8_126 (by assumption) dX8_rank_1 ?_
  refine v_top h5 ?_
  first | with_reducible refine v_if_neB hz 11 dX8_rank_4 (by decide) (fun c4 => ?_) (fun c4 => ?_) | with_reducible refine v_if_neN hz 11 (by omega) dX8_rank_4 (by decide) (fun c4 => ?_) (fun c4 => ?_) | refine v_if_ne hz 11 dX8_rank_4 (by decide) (fun c4 => ?_) (fun c4 => ?_)
  · refine v_aload_n hz dX8_rank_11 rfl ?_
    refine v_callVv hz lX8_251 (cX8_layRanks_ok _ _ _ _ _ _ A hm pg n kn ks tm T qa w bd te td hs hv hvT c4) (by assumption) rfl rfl (Nat.le_of_ble_eq_true rfl) (by decide) ⟨Nat.zero_le _, Nat.zero_le _⟩ dX8_rank_12 (fun I2 q12 => ?_)
    obtain ⟨hQ, k1, k2, k3⟩ := q12
    have rl := rkF_le w bd ks T kn
    refine v_iload_n hz dX8_rank_15 rfl ?_
    refine v_ic (v := nI 0) hz dX8_rank_16 (by decide) ?_
    refine v_aload_n hz dX8_rank_17 rfl ?_
    refine v_getI hz fX8_245 (by assumption) dX8_rank_18 ?_
    refine v_top k1 ?_
    refine v_ic (v := nI 1) hz dX8_rank_21 (by decide) ?_
    refine v_isub hz dX8_rank_22 ?_
    refine v_callSi hz lX8_75 (cX8_within_ok _ _ _ _ _ _ _ _ _) rfl rfl (Nat.le_of_ble_eq_true rfl) (by decide) ⟨Nat.zero_le _, Nat.zero_le _⟩ dX8_rank_23 (fun r I3 q23 => ?_)
    obtain ⟨rfl, eIq23⟩ := q23
    rw [eIq23]
    refine v_top (kpt_w (by omega)) ?_
    first | with_reducible refine v_if_eqB hz 38 dX8_rank_26 (by decide) (fun c26 => ?_) (fun c26 => ?_) | with_reducible refine v_if_eqN hz 38 (by omega) dX8_rank_26 (by decide) (fun c26 => ?_) (fun c26 => ?_) | refine v_if_eq hz 38 dX8_rank_26 (by decide) (fun c26 => ?_) (fun c26 => ?_)
    · refine v_si (v := (-1001)) hz dX8_rank_38 (by decide) ?_
      exact v_iret hz hr dX8_rank_41 (by first | exact ⟨by unfold rnkR; rw [if_pos c4, if_pos c26, nI_clamp (by omega)], hQ⟩ | exact ⟨by unfold rnkR; rw [if_pos c4, if_neg c26], hQ⟩)
    · obtain ⟨j, rfl, hj⟩ := kpt_of (by omega) c26
      refine v_aload_n hz dX8_rank_29 rfl ?_
      refine v_getR hz fX8_59 (by assumption) (by assumption) dX8_rank_30 ?_
      refine v_iload_n hz dX8_rank_33 rfl ?_
      refine v_ialdN hz (by assumption) (by assumption) (by omega) (by decide) dX8_rank_34 ?_
      refine v_top (k2 j hj) ?_
      refine v_goto hz 41 dX8_rank_35 (by decide) ?_
      exact v_iret hz hr dX8_rank_41 (by first | exact ⟨by unfold rnkR; rw [if_pos c4, if_pos c26, nI_clamp (by omega)], hQ⟩ | exact ⟨by unfold rnkR; rw [if_pos c4, if_neg c26], hQ⟩)
  · refine v_si (v := (-1003)) hz dX8_rank_7 (by decide) ?_
    exact v_iret hz hr dX8_rank_10 ⟨(if_neg c4).symm, QF.rf⟩
set_option maxHeartbeats 4000000 in
set_option maxRecDepth 100000 in
theorem lp_layCov1 {z : Zz} {κ : Kz} {I0 : Iz} {R : Rz} {J : Jz} {A : Nat → Nat} (hm : LM κ R A) (hz : Am z cX8_layCovered RX8 4 8) (K : ∀ I, (∀ c, c ≠ A 158 → I c = I0 c) → (∀ x, x < 8 → I (A 158) x = 0) → V z 4 0 0 21 [(0, .ref (A 130))] [] κ I R J) :
    ∀ (m i : Nat) (I : Iz), i ≤ 8 → 9 ≤ i + m → (∀ c, c ≠ A 158 → I c = I0 c) → (∀ x, x < i → I (A 158) x = 0) → V z 4 0 0 2 [(0, .ref (A 130)), (1, .int (nI i))] [] κ I R J := by
  have hk := hm.k
  have ho := hm.o
  have hR19 := hm.r19
  have hK19 := hm.k19
  have hN19 := hm.n19
  have hO19 := hm.o19
  have hR20 := hm.r20
  have hK20 := hm.k20
  have hN20 := hm.n20
  have hO20 := hm.o20
  have hR22 := hm.r22
  have hK22 := hm.k22
  have hN22 := hm.n22
  have hO22 := hm.o22
  have hR28 := hm.r28
  have hK28 := hm.k28
  have hN28 := hm.n28
  have hO28 := hm.o28
  intro m
  induction m with
  | zero => intro i I hi hm9; exact absurd hm9 (by omega)
  | succ m ih =>
  intro i I hi hm9 hF hz0
  refine v_iload_n hz dX8_layCovered_2 rfl ?_
  refine v_bi (v := nI 8) hz dX8_layCovered_3 (by decide) ?_
  first | with_reducible refine v_icmp_geN hz 21 (by omega) (by omega) dX8_layCovered_5 (by decide) (fun c5 => ?_) (fun c5 => ?_) | refine v_icmp_ge hz 21 dX8_layCovered_5 (by decide) (fun c5 => ?_) (fun c5 => ?_)
  · exact v_sub (K _ hF (fun x hx => hz0 x (by omega))) ⟨rfl, trivial⟩
  · refine v_aload_n hz dX8_layCovered_8 rfl ?_
    refine v_getR hz fX8_68 (by assumption) (by assumption) dX8_layCovered_9 ?_
    refine v_iload_n hz dX8_layCovered_12 rfl ?_
    refine v_ic (v := nI 0) hz dX8_layCovered_13 (by decide) ?_
    refine v_zastN hz (by assumption) (by assumption) (by omega) (by decide) (by first | exact Or.inl rfl | exact Or.inr rfl | exact bz_01) dX8_layCovered_14 ?_
    first | refine v_iincN hz 1 dX8_layCovered_15 (by decide) rfl (by decide) rfl ?_ | refine v_iinc hz dX8_layCovered_15 rfl (by decide) rfl ?_
    refine v_goto hz 2 dX8_layCovered_18 (by decide) ?_
    exact v_sub (ih (i + 1) _ (by omega) (by omega) (fun a ha => by rw [u2_ne ha]; exact hF a ha) (fun x hx => by
      by_cases e : x = i
      · rw [e, u2_eq]; rfl
      · rw [u2_at e]; exact hz0 x (by omega))) ⟨rfl, rfl, trivial⟩
theorem cvs_0 {w : Nat} {S T : Sg} {cv : Nat → Bool} {x : Nat} : cvs w S T cv 0 x = cv x := rfl
set_option maxHeartbeats 4000000 in
set_option maxRecDepth 100000 in
theorem lp_layCov3 {z : Zz} {κ : Kz} {I0 : Iz} {R : Rz} {J : Jz} {A : Nat → Nat} (hm : LM κ R A) (hz : Am z cX8_layCovered RX8 4 8) {w a K : Nat} {S T : Sg} {cv : Nat → Bool} {b : Prop} [Decidable b] (hT8 : T.1 ≤ 8) (hK16 : K ≤ 16) (o1 : okS S) (o2 : okS T) (w20 : w ≤ 20) (hK : stpM I0 A w S T K) (C : ∀ I, (∀ c, c ≠ A 158 → I c = I0 c) → (∀ x, x < 8 → I (A 158) x = bz ((if b then cvs w S T cv K x else cv x) = true)) → V z 4 0 0 94 [(0, .ref (A 130)), (1, .int (nI a))] [] κ I R J) :
    ∀ (m k : Nat) (I : Iz), k ≤ K → K + 1 ≤ k + m → (∀ c, c ≠ A 158 → I c = I0 c) → (b ∨ k = 0) → (∀ x, x < 8 → I (A 158) x = bz (cvs w S T cv k x = true)) → V z 4 0 0 46 [(0, .ref (A 130)), (1, .int (nI a)), (2, .int (bz b)), (3, .int (nI k))] [] κ I R J := by
  have hk := hm.k
  have ho := hm.o
  have hR19 := hm.r19
  have hK19 := hm.k19
  have hN19 := hm.n19
  have hO19 := hm.o19
  have hR20 := hm.r20
  have hK20 := hm.k20
  have hN20 := hm.n20
  have hO20 := hm.o20
  have hR22 := hm.r22
  have hK22 := hm.k22
  have hN22 := hm.n22
  have hO22 := hm.o22
  have hR28 := hm.r28
  have hK28 := hm.k28
  have hN28 := hm.n28
  have hO28 := hm.o28
  obtain ⟨n1, n2, n3, n4⟩ := id hK
  intro m
  induction m with
  | zero => intro k I hk9 hm9; exact absurd hm9 (by omega)
  | succ m ih =>
  intro k I hk9 hm9 hF hb hcv
  have kl := knd_le w S T (pos w S T k).1 (pos w S T k).2
  have sl := stc_b (k := k) o1 o2 w20
  have x0 : I (A 130) = I0 (A 130) := hF _ (show A 130 ≠ A 158 from hm.ne 0 28 (by decide) (by decide) (by decide))
  have y19 : I (A 149) = I0 (A 149) := hF _ (show A 149 ≠ A 158 from hm.ne 19 28 (by decide) (by decide) (by decide))
  have y20 : I (A 150) = I0 (A 150) := hF _ (show A 150 ≠ A 158 from hm.ne 20 28 (by decide) (by decide) (by decide))
  have y22 : I (A 152) = I0 (A 152) := hF _ (show A 152 ≠ A 158 from hm.ne 22 28 (by decide) (by decide) (by decide))
  refine v_iload_n hz dX8_layCovered_46 rfl ?_
  refine v_aload_n hz dX8_layCovered_47 rfl ?_
  refine v_getI hz fX8_154 (by assumption) dX8_layCovered_48 ?_
  refine v_top (y := nI K) (by rw [x0]; exact n3) ?_
  first | with_reducible refine v_icmp_geN hz 94 (by omega) (by omega) dX8_layCovered_51 (by decide) (fun c51 => ?_) (fun c51 => ?_) | refine v_icmp_ge hz 94 dX8_layCovered_51 (by decide) (fun c51 => ?_) (fun c51 => ?_)
  · refine v_sub (C I hF (fun x hx => ?_)) ⟨rfl, rfl, trivial⟩
    by_cases q : b
    · rw [if_pos q, ← show k = K by omega]; exact hcv x hx
    · rw [if_neg q]
      have e : k = 0 := by rcases hb with h | h; exact absurd h q; exact h
      subst e
      exact hcv x hx
  · refine v_iload_n hz dX8_layCovered_54 rfl ?_
    first | with_reducible refine v_if_eqB hz 94 dX8_layCovered_55 (by decide) (fun c55 => ?_) (fun c55 => ?_) | with_reducible refine v_if_eqN hz 94 (by omega) dX8_layCovered_55 (by decide) (fun c55 => ?_) (fun c55 => ?_) | refine v_if_eq hz 94 dX8_layCovered_55 (by decide) (fun c55 => ?_) (fun c55 => ?_)
    · refine v_sub (C I hF (fun x hx => ?_)) ⟨rfl, rfl, trivial⟩
      rw [if_neg c55]
      have e : k = 0 := by rcases hb with h | h; exact absurd h c55; exact h
      subst e
      exact hcv x hx
    · have n4 := n4 k (by omega)
      refine v_aload_n hz dX8_layCovered_58 rfl ?_
      refine v_getR hz fX8_44 (by assumption) (by assumption) dX8_layCovered_59 ?_
      refine v_iload_n hz dX8_layCovered_62 rfl ?_
      refine v_ialdN hz (by assumption) (by assumption) (by omega) (by decide) dX8_layCovered_63 ?_
      refine v_top (y := nI (knd w S T (pos w S T k).1 (pos w S T k).2)) (by rw [y19]; exact n4.1) ?_
      first | with_reducible refine v_if_neB hz 88 dX8_layCovered_64 (by decide) (fun c64 => ?_) (fun c64 => ?_) | with_reducible refine v_if_neN hz 88 (by omega) dX8_layCovered_64 (by decide) (fun c64 => ?_) (fun c64 => ?_) | refine v_if_ne hz 88 dX8_layCovered_64 (by decide) (fun c64 => ?_) (fun c64 => ?_)
      · first | refine v_iincN hz 1 dX8_layCovered_88 (by decide) rfl (by decide) rfl ?_ | refine v_iinc hz dX8_layCovered_88 rfl (by decide) rfl ?_
        refine v_goto hz 46 dX8_layCovered_91 (by decide) ?_
        first
        | (exact v_sub (ih (k + 1) _ (by omega) (by omega) hF (Or.inl c55) (fun x hx => by rw [hcv x hx, cvs_s]; congr 1; simp; intro a1 a2; omega)) ⟨rfl, rfl, rfl, rfl, trivial⟩)
        | (exact v_sub (ih (k + 1) _ (by omega) (by omega) (fun a ha => by rw [u2_ne ha]; exact hF a ha) (Or.inl c55) (fun x hx => by
            by_cases e : x = (pos w S T k).2
            · rw [e, u2_eq, cvs_s]; refine (bz_t ?_).symm; simp; exact Or.inr ⟨by omega, by omega⟩
            · rw [u2_at e, hcv x hx, cvs_s]; congr 1; simp; intro a1 a2 a3; exact absurd a3.symm e)) ⟨rfl, rfl, rfl, rfl, trivial⟩)
      · refine v_aload_n hz dX8_layCovered_67 rfl ?_
        refine v_getR hz fX8_47 (by assumption) (by assumption) dX8_layCovered_68 ?_
        refine v_iload_n hz dX8_layCovered_71 rfl ?_
        refine v_ialdN hz (by assumption) (by assumption) (by omega) (by decide) dX8_layCovered_72 ?_
        refine v_top (y := nI (stc w S T k)) (by rw [y20]; exact n4.2.1) ?_
        first | with_reducible refine v_if_neB hz 88 dX8_layCovered_73 (by decide) (fun c73 => ?_) (fun c73 => ?_) | with_reducible refine v_if_neN hz 88 (by omega) dX8_layCovered_73 (by decide) (fun c73 => ?_) (fun c73 => ?_) | refine v_if_ne hz 88 dX8_layCovered_73 (by decide) (fun c73 => ?_) (fun c73 => ?_)
        · first | refine v_iincN hz 1 dX8_layCovered_88 (by decide) rfl (by decide) rfl ?_ | refine v_iinc hz dX8_layCovered_88 rfl (by decide) rfl ?_
          refine v_goto hz 46 dX8_layCovered_91 (by decide) ?_
          first
          | (exact v_sub (ih (k + 1) _ (by omega) (by omega) hF (Or.inl c55) (fun x hx => by rw [hcv x hx, cvs_s]; congr 1; simp; intro a1 a2; omega)) ⟨rfl, rfl, rfl, rfl, trivial⟩)
          | (exact v_sub (ih (k + 1) _ (by omega) (by omega) (fun a ha => by rw [u2_ne ha]; exact hF a ha) (Or.inl c55) (fun x hx => by
              by_cases e : x = (pos w S T k).2
              · rw [e, u2_eq, cvs_s]; refine (bz_t ?_).symm; simp; exact Or.inr ⟨by omega, by omega⟩
              · rw [u2_at e, hcv x hx, cvs_s]; congr 1; simp; intro a1 a2 a3; exact absurd a3.symm e)) ⟨rfl, rfl, rfl, rfl, trivial⟩)
        · refine v_aload_n hz dX8_layCovered_76 rfl ?_
          refine v_getR hz fX8_68 (by assumption) (by assumption) dX8_layCovered_77 ?_
          refine v_aload_n hz dX8_layCovered_80 rfl ?_
          refine v_getR hz fX8_53 (by assumption) (by assumption) dX8_layCovered_81 ?_
          refine v_iload_n hz dX8_layCovered_84 rfl ?_
          refine v_ialdN hz (by assumption) (by assumption) (by omega) (by decide) dX8_layCovered_85 ?_
          have k0 : knd w S T (pos w S T k).1 (pos w S T k).2 = 0 := by omega
          have jlt := knd_0 k0
          refine v_top (y := nI (pos w S T k).2) (by rw [y22, n4.2.2.2]; unfold st3; rw [if_neg (by omega)]) ?_
          refine v_ic (v := nI 1) hz dX8_layCovered_86 (by decide) ?_
          refine v_zastN hz (by assumption) (by assumption) (by omega) (by decide) (by first | exact Or.inl rfl | exact Or.inr rfl | exact bz_01) dX8_layCovered_87 ?_
          first | refine v_iincN hz 1 dX8_layCovered_88 (by decide) rfl (by decide) rfl ?_ | refine v_iinc hz dX8_layCovered_88 rfl (by decide) rfl ?_
          refine v_goto hz 46 dX8_layCovered_91 (by decide) ?_
          first
          | (exact v_sub (ih (k + 1) _ (by omega) (by omega) hF (Or.inl c55) (fun x hx => by rw [hcv x hx, cvs_s]; congr 1; simp; intro a1 a2; omega)) ⟨rfl, rfl, rfl, rfl, trivial⟩)
          | (exact v_sub (ih (k + 1) _ (by omega) (by omega) (fun a ha => by rw [u2_ne ha]; exact hF a ha) (Or.inl c55) (fun x hx => by
              by_cases e : x = (pos w S T k).2
              · rw [e, u2_eq, cvs_s]; refine (bz_t ?_).symm; simp; exact Or.inr ⟨by omega, by omega⟩
              · rw [u2_at e, hcv x hx, cvs_s]; congr 1; simp; intro a1 a2 a3; exact absurd a3.symm e)) ⟨rfl, rfl, rfl, rfl, trivial⟩)
set_option maxHeartbeats 4000000 in
set_option maxRecDepth 100000 in
theorem lp_layCov2 {z : Zz} {κ : Kz} {I0 : Iz} {R : Rz} {J : Jz} {A : Nat → Nat} (hm : LM κ R A) (hz : Am z cX8_layCovered RX8 4 8) {pg : Nat → Nat} {n kn : Nat} {ks : Nat → Sg} {tm : Nat → Int32} {T : Sg} {qa w bd : Nat} {te td : Int32} (hs : MS I0 A pg n kn ks tm T qa w bd te td) (hv : ∀ i, i < kn → okQ (ks i)) (hvT : 0 < qa → okQ T) (hqa : 0 < qa) (hr : Rt z yX8_layCovered none 0 0 (Sv κ R J (fun I1 => QF A I0 I1 ∧ ∀ x, x < 8 → I1 (A 158) x = bz (cvF w bd ks T kn x = true)))) :
    ∀ (m a : Nat) (I : Iz), a ≤ kn → kn + 1 ≤ a + m → QF A I0 I → (∀ x, x < 8 → I (A 158) x = bz (cvk w ks T (nsF w ks T) (mtB w bd ks T) a x = true)) → V z 4 0 0 23 [(0, .ref (A 130)), (1, .int (nI a))] [] κ I R J := by
  have hk := hm.k
  have ho := hm.o
  have hR19 := hm.r19
  have hK19 := hm.k19
  have hN19 := hm.n19
  have hO19 := hm.o19
  have hR20 := hm.r20
  have hK20 := hm.k20
  have hN20 := hm.n20
  have hO20 := hm.o20
  have hR22 := hm.r22
  have hK22 := hm.k22
  have hN22 := hm.n22
  have hO22 := hm.o22
  have hR28 := hm.r28
  have hK28 := hm.k28
  have hN28 := hm.n28
  have hO28 := hm.o28
  intro m
  induction m with
  | zero => intro a I ha hm9; exact absurd hm9 (by omega)
  | succ m ih =>
  intro a I ha hm9 hQ hcv
  have hsI := hQ.ms hm hs
  obtain ⟨⟨h0, h0a, h0b⟩, ⟨h2, h3, h4⟩, ⟨h5, h6, h7⟩, ⟨⟨h8, h8a⟩, h9, h10⟩, h11, h12⟩ := id hsI
  refine v_iload_n hz dX8_layCovered_23 rfl ?_
  refine v_aload_n hz dX8_layCovered_24 rfl ?_
  refine v_getI hz fX8_107 (by assumption) dX8_layCovered_25 ?_
  refine v_top h3 ?_
  first | with_reducible refine v_icmp_geN hz 100 (by omega) (by omega) dX8_layCovered_28 (by decide) (fun c28 => ?_) (fun c28 => ?_) | refine v_icmp_ge hz 100 dX8_layCovered_28 (by decide) (fun c28 => ?_) (fun c28 => ?_)
  · exact v_vret hz hr dX8_layCovered_100 ⟨hQ, by rw [show kn = a by omega]; exact hcv⟩
  · refine v_aload_n hz dX8_layCovered_31 rfl ?_
    refine v_iload_n hz dX8_layCovered_32 rfl ?_
    refine v_callVi hz lX8_236 (cX8_isMatch_ok _ _ _ _ _ _ A hm a w bd (ks a) T ⟨h8, h8a⟩ h9 h10 (h4 a (by omega)).1 (h7 hqa) (hv a (by omega)) (hvT hqa)) (by assumption) rfl rfl (Nat.le_of_ble_eq_true rfl) (by decide) ⟨Nat.zero_le _, Nat.zero_le _⟩ dX8_layCovered_33 (fun r I2 q33 => ?_)
    obtain ⟨rfl, hF⟩ := q33
    have hQ2 := hQ.tr (QF.of hm hF)
    have hs2 := hQ2.ms hm hs
    refine v_istore_n hz dX8_layCovered_36 (by decide) rfl ?_
    refine v_aload_n hz dX8_layCovered_37 rfl ?_
    refine v_iload_n hz dX8_layCovered_38 rfl ?_
    refine v_bi (v := nI 12) hz dX8_layCovered_39 (by decide) ?_
    refine v_callVv hz lX8_201 (cX8_laySteps_ok _ _ _ _ _ _ A hm w a 12 (ks a) T hs2.2.2.2.1.1 (hs2.2.1.2.2 a (by omega)).1 (hs2.2.2.1.2.2 hqa)) (by assumption) rfl rfl (Nat.le_of_ble_eq_true rfl) (by decide) ⟨Nat.zero_le _, Nat.zero_le _⟩ dX8_layCovered_41 (fun I4 q41 => ?_)
    obtain ⟨hQS, K, hK⟩ := q41
    have o1 := (hv a (by omega)).1
    have o2 := (hvT hqa).1
    have hK16 : K ≤ 16 := by have a1 := hK.2.1; have a2 := o1.2.1; have a3 := o2.2.1; omega
    have eK := nsf_eq hK.1
    have r58 : I4 (A 158) = I (A 158) := (hm.fm hQS.1 28 (by decide) (by decide)).trans (hm.fm hF 28 (by decide) (by decide))
    refine v_ic (v := nI 0) hz dX8_layCovered_44 (by decide) ?_
    refine v_istore_n hz dX8_layCovered_45 (by decide) rfl ?_
    refine v_sub (lp_layCov3 hm hz (I0 := I4) (w := w) (a := a) (K := K) (S := ks a) (T := T) (cv := cvk w ks T (nsF w ks T) (mtB w bd ks T) a) (b := bd ≤ sco w (ks a) T) o2.2.1 hK16 o1 o2 h8a.2 hK (fun I5 g1 g2 => ?_) (K + 1) 0 I4 (by omega) (by omega) (fun _ _ => rfl) (Or.inr rfl) (fun x hx => by rw [r58]; exact hcv x hx)) ⟨rfl, rfl, rfl, rfl, trivial⟩
    first | refine v_iincN hz 1 dX8_layCovered_94 (by decide) rfl (by decide) rfl ?_ | refine v_iinc hz dX8_layCovered_94 rfl (by decide) rfl ?_
    refine v_goto hz 23 dX8_layCovered_97 (by decide) ?_
    refine v_sub (ih (a + 1) _ (by omega) (by omega) ((hQ2.tr hQS.qf).tr (QF.one (by decide) (show A 130 ≠ A 158 from hm.ne 0 28 (by decide) (by decide) (by decide)) g1)) (fun x hx => ?_)) ⟨rfl, rfl, trivial⟩
    rw [g2 x hx]
    congr 1
    have e : cvk w ks T (nsF w ks T) (mtB w bd ks T) (a + 1) = if mtB w bd ks T a then cvs w (ks a) T (cvk w ks T (nsF w ks T) (mtB w bd ks T) a) (nsF w ks T a) else cvk w ks T (nsF w ks T) (mtB w bd ks T) a := rfl
    rw [e, show nsF w ks T a = K from eK]
    by_cases q : bd ≤ sco w (ks a) T
    · rw [if_pos q, if_pos (show mtB w bd ks T a = true from decide_eq_true q)]
    · rw [if_neg q, if_neg (show ¬ mtB w bd ks T a = true from fun y => q (of_decide_eq_true y))]
set_option maxHeartbeats 4000000 in
set_option maxRecDepth 100000 in
theorem cX8_layCovered_ok (l : Launch) (g : Gz) (κ : Kz) (I : Iz) (R : Rz) (J : Jz) (A : Nat → Nat) (hm : LM κ R A) (pg : Nat → Nat) (n kn : Nat) (ks : Nat → Sg) (tm : Nat → Int32) (T : Sg) (qa w bd : Nat) (te td : Int32) (hs : MS I A pg n kn ks tm T qa w bd te td) (hv : ∀ i, i < kn → okQ (ks i)) (hvT : 0 < qa → okQ T) (hqa : 0 < qa) : Ct l mX8_layCovered 0 0 g [.ref (A 130)] κ I R J (Sv κ R J (fun I1 => QF A I I1 ∧ ∀ x, x < 8 → I1 (A 158) x = bz (cvF w bd ks T kn x = true))) := by
  refine ct_of (by decide) (Nat.le_of_ble_eq_true rfl) ?_
  intro z hz hr hrc hrs
  have hz : Am z cX8_layCovered RX8 4 8 := hz
  have hr : Rt z yX8_layCovered none 0 0 _ := hr
  show V z 4 0 0 0 [(0, .ref (A 130))] [] κ I R J
  have hk := hm.k
  have ho := hm.o
  have hR19 := hm.r19
  have hK19 := hm.k19
  have hN19 := hm.n19
  have hO19 := hm.o19
  have hR20 := hm.r20
  have hK20 := hm.k20
  have hN20 := hm.n20
  have hO20 := hm.o20
  have hR22 := hm.r22
  have hK22 := hm.k22
  have hN22 := hm.n22
  have hO22 := hm.o22
  have hR28 := hm.r28
  have hK28 := hm.k28
  have hN28 := hm.n28
  have hO28 := hm.o28
  refine v_ic (v := nI 0) hz dX8_layCovered_0 (by decide) ?_
  refine v_istore_n hz dX8_layCovered_1 (by decide) rfl ?_
  refine v_sub (lp_layCov1 hm hz (I0 := I) (fun I3 h3 h4 => ?_) 9 0 I (by omega) (by omega) (fun _ _ => rfl) (fun x hx => absurd hx (by omega))) ⟨rfl, rfl, trivial⟩
  refine v_ic (v := nI 0) hz dX8_layCovered_21 (by decide) ?_
  refine v_istore_n hz dX8_layCovered_22 (by decide) rfl ?_
  exact v_sub (lp_layCov2 hm hz hs hv hvT hqa hr (kn + 1) 0 I3 (by omega) (by omega) (QF.one (by decide) (show A 130 ≠ A 158 from hm.ne 0 28 (by decide) (by decide) (by decide)) h3) (fun x hx => by rw [h4 x hx]; exact (bz_f (by simp [cvk])).symm)) ⟨rfl, rfl, trivial⟩
