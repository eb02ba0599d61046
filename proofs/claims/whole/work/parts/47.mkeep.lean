/-! ===== the reference: keep, drop, ask ===== -/
/-- the first of the kept ones that has the same signs; kn, if there is none -/
def isFs (ks : Nat → Sg) (kn : Nat) (S : Sg) (f : Nat) : Prop := f ≤ kn ∧ (∀ i, i < f → ¬ sameS (ks i) S) ∧ (f < kn → sameS (ks f) S)
theorem isFs.one {ks : Nat → Sg} {kn : Nat} {S : Sg} {f f' : Nat} (h : isFs ks kn S f) (h' : isFs ks kn S f') : f = f' := by
  obtain ⟨a1, a2, a3⟩ := h
  obtain ⟨b1, b2, b3⟩ := h'
  rcases Nat.lt_trichotomy f f' with e | e | e
  · exact absurd (a3 (by omega)) (b2 f e)
  · exact e
  · exact absurd (b3 (by omega)) (a2 f' e)
/-- a row without its place s -/
def dlt {α : Type} (f : Nat → α) (s i : Nat) : α := if i < s then f i else f (i + 1)
def dlk {α : Type} (f : Nat → α) (s k i : Nat) : α := if s ≤ i ∧ i < k then f (i + 1) else f i
theorem segB_okQ {pg : Nat → Nat} {n : Nat} (hn : n ≤ 48) (h : segB pg n = true) : okQ (sgOf pg n) := by
  have q := segB_ok h
  exact ⟨q.1, by omega, q.2.2⟩
set_option maxHeartbeats 4000000 in
set_option maxRecDepth 100000 in
theorem lp_keep {z : Zz} {κ : Kz} {I : Iz} {R : Rz} {J : Jz} {A : Nat → Nat} (hm : LM κ R A) (hz : Am z cX8_keep RX8 2 6) {kn : Nat} {ks : Nat → Sg} {S : Sg} (hkn : kn ≤ 12) (h3 : I (A 130) 2 = nI kn) (h4 : ∀ i, i < kn → msg I A i (ks i)) (hv : ∀ i, i < kn → okQ (ks i)) (hS : msg I A 13 S) (oS : okQ S) (K : ∀ f, isFs ks kn S f → V z 2 0 0 37 [(0, .ref (A 130)), (1, .int (nI f))] [] κ I R J) :
    ∀ (m f : Nat), f ≤ kn → kn + 1 ≤ f + m → (∀ i, i < f → ¬ sameS (ks i) S) → V z 2 0 0 13 [(0, .ref (A 130)), (1, .int (nI f))] [] κ I R J := by
  have hk := hm.k
  have ho := hm.o
  have hR5 := hm.r5
  have hK5 := hm.k5
  have hN5 := hm.n5
  have hO5 := hm.o5
  intro m
  induction m with
  | zero => intro f hf hm9; exact absurd hm9 (by omega)
  | succ m ih =>
  intro f hf hm9 hno
  refine v_iload_n hz dX8_keep_13 rfl ?_
  refine v_aload_n hz dX8_keep_14 rfl ?_
  refine v_getI hz fX8_107 (by assumption) dX8_keep_15 ?_
  refine v_top h3 ?_
  first | with_reducible refine v_icmp_geN hz 37 (by omega) (by omega) dX8_keep_18 (by decide) (fun c18 => ?_) (fun c18 => ?_) | refine v_icmp_ge hz 37 dX8_keep_18 (by decide) (fun c18 => ?_) (fun c18 => ?_)
  · exact K f ⟨hf, hno, fun e => absurd e (by omega)⟩
  · refine v_aload_n hz dX8_keep_21 rfl ?_
    refine v_iload_n hz dX8_keep_22 rfl ?_
    refine v_bi (v := nI 13) hz dX8_keep_23 (by decide) ?_
    refine v_callVi hz lX8_110 (cX8_areSame_ok _ _ _ _ _ _ A hm f 13 (ks f) S (h4 f (by omega)) hS (hv f (by omega)) oS) (by assumption) rfl rfl (Nat.le_of_ble_eq_true rfl) (by decide) ⟨Nat.zero_le _, Nat.zero_le _⟩ dX8_keep_25 (fun r I1 h25 => ?_)
    obtain ⟨rfl, eI⟩ := h25
    rw [eI]
    unfold sameI
    with_reducible refine v_if_neB hz 37 dX8_keep_28 (by decide) (fun c28 => ?_) (fun c28 => ?_)
    · exact K f ⟨hf, hno, fun _ => c28⟩
    · first | refine v_iincN hz 1 dX8_keep_31 (by decide) rfl (by decide) rfl ?_ | refine v_iinc hz dX8_keep_31 rfl (by decide) rfl ?_
      refine v_goto hz 13 dX8_keep_34 (by decide) ?_
      exact v_sub (ih (f + 1) (by omega) (by omega) (fun i hi => by
        by_cases e : i = f
        · rw [e]; exact c28
        · exact hno i (by omega))) ⟨rfl, rfl, trivial⟩
set_option maxHeartbeats 4000000 in
set_option maxRecDepth 100000 in
theorem cX8_keep_ok (l : Launch) (g : Gz) (κ : Kz) (I : Iz) (R : Rz) (J : Jz) (A : Nat → Nat) (hm : LM κ R A) (pg : Nat → Nat) (n kn : Nat) (ks : Nat → Sg) (tm : Nat → Int32) (T : Sg) (qa w bd : Nat) (te td : Int32) (hs : MS I A pg n kn ks tm T qa w bd te td) (hv : ∀ i, i < kn → okQ (ks i)) : Ct l mX8_keep 0 0 g [.ref (A 130)] κ I R J (Si κ R J (fun r I1 => Fo A I I1 ∧ (¬ segB pg n = true → r = -1003 ∧ MS I1 A pg n kn ks tm T qa w bd te td) ∧ (segB pg n = true → ∀ f, isFs ks kn (sgOf pg n) f → (f = 12 → r = -1004 ∧ MS I1 A pg n kn ks tm T qa w bd te td) ∧ (f < kn → r = nI f ∧ MS I1 A pg 0 kn ks (va_up tm f (tm f + nI 1)) T qa w bd (te + nI 1) td) ∧ (f = kn → f < 12 → r = nI f ∧ MS I1 A pg 0 (kn + 1) (va_up ks kn (sgOf pg n)) (va_up tm kn (nI (0 + 1))) T qa w bd (te + nI 1) td)))) := by
  refine ct_of (by decide) (Nat.le_of_ble_eq_true rfl) ?_
  intro z hz hr hrc hrs
  have hz : Am z cX8_keep RX8 2 6 := hz
  have hr : Rt z yX8_keep (some .int) 0 0 _ := hr
  show V z 2 0 0 0 [(0, .ref (A 130))] [] κ I R J
  have hk := hm.k
  have ho := hm.o
  have hR5 := hm.r5
  have hK5 := hm.k5
  have hN5 := hm.n5
  have hO5 := hm.o5
  refine v_aload_n hz dX8_keep_0 rfl ?_
  refine v_callVi hz lX8_103 (cX8_isSegment_ok _ _ _ _ _ _ A hm n pg hs.1) (by assumption) rfl rfl (Nat.le_of_ble_eq_true rfl) (by decide) ⟨Nat.zero_le _, Nat.zero_le _⟩ dX8_keep_1 (fun r I2 h1 => ?_)
  obtain ⟨rfl, hF, hS⟩ := h1
  have hs2 := hF.ms hm hs
  have hn48 := hs.1.1
  obtain ⟨⟨m0, m0a, m0b⟩, ⟨h2, h3, h4⟩, ⟨h5, h6, h7⟩, ⟨⟨h8, h8a⟩, h9, h10⟩, h11, h12⟩ := id hs2
  first | with_reducible refine v_if_neB hz 11 dX8_keep_4 (by decide) (fun c4 => ?_) (fun c4 => ?_) | with_reducible refine v_if_neN hz 11 (by omega) dX8_keep_4 (by decide) (fun c4 => ?_) (fun c4 => ?_) | refine v_if_ne hz 11 dX8_keep_4 (by decide) (fun c4 => ?_) (fun c4 => ?_)
  · have hS := hS c4
    refine v_ic (v := nI 0) hz dX8_keep_11 (by decide) ?_
    refine v_istore_n hz dX8_keep_12 (by decide) rfl ?_
    refine v_sub (lp_keep hm hz h2 h3 (fun i hi => (h4 i hi).1) hv hS (segB_okQ hn48 c4) (fun f hf => ?_) (kn + 1) 0 (by omega) (by omega) (fun i hi => absurd hi (Nat.not_lt_zero i))) ⟨rfl, rfl, trivial⟩
    have hfk := hf.1
    refine v_iload_n hz dX8_keep_37 rfl ?_
    refine v_bi (v := nI 12) hz dX8_keep_38 (by decide) ?_
    first | with_reducible refine v_icmp_neN hz 47 (by omega) (by omega) dX8_keep_40 (by decide) (fun c40 => ?_) (fun c40 => ?_) | refine v_icmp_ne hz 47 dX8_keep_40 (by decide) (fun c40 => ?_) (fun c40 => ?_)
    · refine v_iload_n hz dX8_keep_47 rfl ?_
      refine v_aload_n hz dX8_keep_48 rfl ?_
      refine v_getI hz fX8_107 (by assumption) dX8_keep_49 ?_
      refine v_top h3 ?_
      first | with_reducible refine v_icmp_neN hz 85 (by omega) (by omega) dX8_keep_52 (by decide) (fun c52 => ?_) (fun c52 => ?_) | refine v_icmp_ne hz 85 dX8_keep_52 (by decide) (fun c52 => ?_) (fun c52 => ?_)
      · have c52 : f < kn := by have := hf.1; omega
        refine v_aload_n hz dX8_keep_85 rfl ?_
        refine v_getR hz fX8_16 (by assumption) (by assumption) dX8_keep_86 ?_
        refine v_iload_n hz dX8_keep_89 rfl ?_
        refine v_dup2 hz dX8_keep_90 rfl rfl ?_
        refine v_ialdN hz (by assumption) (by assumption) (by omega) (by decide) dX8_keep_91 ?_
        refine v_top (h4 f c52).2 ?_
        refine v_ic (v := nI 1) hz dX8_keep_92 (by decide) ?_
        first | with_reducible refine v_iaddN hz dX8_keep_93 ?_ | refine v_iadd hz dX8_keep_93 ?_
        refine v_iastN hz (by assumption) (by assumption) (by omega) (by decide) dX8_keep_94 ?_
        refine v_gen (fun I5 hI5 => ?_)
        have g0 : I5 (A 130) = I2 (A 130) := by rw [hI5, u2_ne (show A 130 ≠ A 135 from hm.ne 0 5 (by decide) (by decide) (by decide))]
        refine v_aload_n hz dX8_keep_95 rfl ?_
        refine v_dup hz dX8_keep_96 rfl ?_
        refine v_getI hz fX8_117 (by assumption) dX8_keep_97 ?_
        refine v_top (y := te) (by rw [g0]; exact h11) ?_
        refine v_ic (v := nI 1) hz dX8_keep_100 (by decide) ?_
        first | with_reducible refine v_iaddN hz dX8_keep_101 ?_ | refine v_iadd hz dX8_keep_101 ?_
        refine v_putI hz fX8_117 (by assumption) dX8_keep_102 ?_
        refine v_aload_n hz dX8_keep_105 rfl ?_
        refine v_ic (v := nI 0) hz dX8_keep_106 (by decide) ?_
        refine v_putI hz fX8_79 (by assumption) dX8_keep_107 ?_
        refine v_iload_n hz dX8_keep_110 rfl ?_
        exact v_iret hz hr dX8_keep_111 ⟨hF.fo.tr (by rw [hI5]; exact ((Fo.rf.put (by decide) (by decide)).put (by decide) (by decide)).put (by decide) (by decide)), fun q => absurd c4 q, fun _ => fun f' hf' => by
            have e := hf.one hf'
            subst e
            refine ⟨fun e => absurd e (by omega), fun _ => ⟨rfl, ?_⟩, fun e => absurd e (by omega)⟩
            have k0 : ∀ x, x ≠ 0 → x ≠ 11 → u2 (u2 I5 (A 130) 11 (te + nI 1)) (A 130) 0 (nI 0) (A 130) x = I2 (A 130) x := fun x a b => by rw [u2_at a, u2_at b, g0]
            have km : ∀ s S, msg I2 A s S → msg (u2 (u2 I5 (A 130) 11 (te + nI 1)) (A 130) 0 (nI 0)) A s S := fun s S h => by rw [hI5]; exact ((h.put5 hm).put0 hm).put0 hm
            exact ⟨⟨by decide, u2_eq, fun j hj => absurd hj (Nat.not_lt_zero j)⟩, ⟨h2, by rw [k0 2 (by decide) (by decide)]; exact h3, fun i hi => ⟨km _ _ (h4 i hi).1, by
              rw [u2_ne (show A 135 ≠ A 130 from hm.ne 5 0 (by decide) (by decide) (by decide)), u2_ne (show A 135 ≠ A 130 from hm.ne 5 0 (by decide) (by decide) (by decide)), hI5]
              by_cases e : i = f
              · rw [e, u2_eq, vup_s]
              · rw [u2_at e, vup_n e]; exact (h4 i hi).2⟩⟩, ⟨by rw [k0 3 (by decide) (by decide)]; exact h5, by rw [k0 13 (by decide) (by decide)]; exact h6, fun q => km _ _ (h7 q)⟩, ⟨⟨by rw [k0 9 (by decide) (by decide)]; exact h8, h8a⟩, by rw [k0 10 (by decide) (by decide)]; exact h9, h10⟩, by rw [u2_at (by decide), u2_eq], by rw [k0 12 (by decide) (by decide)]; exact h12⟩⟩
      · refine v_aload_n hz dX8_keep_55 rfl ?_
        refine v_bi (v := nI 13) hz dX8_keep_56 (by decide) ?_
        refine v_aload_n hz dX8_keep_58 rfl ?_
        refine v_getI hz fX8_107 (by assumption) dX8_keep_59 ?_
        refine v_top h3 ?_
        refine v_callVv hz lX8_113 (cX8_copy_ok _ _ _ _ _ _ A hm 13 kn (by decide) (by omega) (by omega)) (by assumption) rfl rfl (Nat.le_of_ble_eq_true rfl) (by decide) ⟨Nat.zero_le _, Nat.zero_le _⟩ dX8_keep_62 (fun I3 hcp => ?_)
        have g3 : I3 (A 130) = I2 (A 130) := hcp.1 _ (show A 130 ≠ A 134 from hm.ne 0 4 (by decide) (by decide) (by decide)) (show A 130 ≠ A 135 from hm.ne 0 5 (by decide) (by decide) (by decide)) (show A 130 ≠ A 136 from hm.ne 0 6 (by decide) (by decide) (by decide)) (show A 130 ≠ A 137 from hm.ne 0 7 (by decide) (by decide) (by decide)) (show A 130 ≠ A 138 from hm.ne 0 8 (by decide) (by decide) (by decide))
        refine v_aload_n hz dX8_keep_65 rfl ?_
        refine v_getR hz fX8_16 (by assumption) (by assumption) dX8_keep_66 ?_
        refine v_aload_n hz dX8_keep_69 rfl ?_
        refine v_getI hz fX8_107 (by assumption) dX8_keep_70 ?_
        refine v_top (y := nI kn) (by rw [g3]; exact h3) ?_
        refine v_ic (v := nI 0) hz dX8_keep_73 (by decide) ?_
        refine v_iastN hz (by assumption) (by assumption) (by omega) (by decide) dX8_keep_74 ?_
        refine v_gen (fun I4 hI4 => ?_)
        have g4 : I4 (A 130) = I2 (A 130) := by rw [hI4, u2_ne (show A 130 ≠ A 135 from hm.ne 0 5 (by decide) (by decide) (by decide)), g3]
        refine v_aload_n hz dX8_keep_75 rfl ?_
        refine v_dup hz dX8_keep_76 rfl ?_
        refine v_getI hz fX8_107 (by assumption) dX8_keep_77 ?_
        refine v_top (y := nI kn) (by rw [g4]; exact h3) ?_
        refine v_ic (v := nI 1) hz dX8_keep_80 (by decide) ?_
        first | with_reducible refine v_iaddN hz dX8_keep_81 ?_ | refine v_iadd hz dX8_keep_81 ?_
        refine v_putI hz fX8_107 (by assumption) dX8_keep_82 ?_
        refine v_gen (fun I5 hI5 => ?_)
        refine v_aload_n hz dX8_keep_85 rfl ?_
        refine v_getR hz fX8_16 (by assumption) (by assumption) dX8_keep_86 ?_
        refine v_iload_n hz dX8_keep_89 rfl ?_
        refine v_dup2 hz dX8_keep_90 rfl rfl ?_
        refine v_ialdN hz (by assumption) (by assumption) (by omega) (by decide) dX8_keep_91 ?_
        refine v_top (y := nI 0) (by rw [hI5, u2_ne (show A 135 ≠ A 130 from hm.ne 5 0 (by decide) (by decide) (by decide)), hI4, show f = kn by omega, u2_eq]) ?_
        refine v_ic (v := nI 1) hz dX8_keep_92 (by decide) ?_
        first | with_reducible refine v_iaddN hz dX8_keep_93 ?_ | refine v_iadd hz dX8_keep_93 ?_
        refine v_iastN hz (by assumption) (by assumption) (by omega) (by decide) dX8_keep_94 ?_
        refine v_gen (fun I6 hI6 => ?_)
        have g6 : ∀ x, x ≠ 2 → I6 (A 130) x = I2 (A 130) x := fun x hx => by rw [hI6, u2_ne (show A 130 ≠ A 135 from hm.ne 0 5 (by decide) (by decide) (by decide)), hI5, u2_at hx, g4]
        refine v_aload_n hz dX8_keep_95 rfl ?_
        refine v_dup hz dX8_keep_96 rfl ?_
        refine v_getI hz fX8_117 (by assumption) dX8_keep_97 ?_
        refine v_top (y := te) (by rw [g6 11 (by decide)]; exact h11) ?_
        refine v_ic (v := nI 1) hz dX8_keep_100 (by decide) ?_
        first | with_reducible refine v_iaddN hz dX8_keep_101 ?_ | refine v_iadd hz dX8_keep_101 ?_
        refine v_putI hz fX8_117 (by assumption) dX8_keep_102 ?_
        refine v_aload_n hz dX8_keep_105 rfl ?_
        refine v_ic (v := nI 0) hz dX8_keep_106 (by decide) ?_
        refine v_putI hz fX8_79 (by assumption) dX8_keep_107 ?_
        refine v_iload_n hz dX8_keep_110 rfl ?_
        exact v_iret hz hr dX8_keep_111 ⟨hF.fo.tr (hcp.fo.tr (by rw [hI6, hI5, hI4]; exact ((((Fo.rf.put (by decide) (by decide)).put (by decide) (by decide)).put (by decide) (by decide)).put (by decide) (by decide)).put (by decide) (by decide))), fun q => absurd c4 q, fun _ => fun f' hf' => by
            have e := hf.one hf'
            subst e
            refine ⟨fun e => absurd e (by omega), fun e => absurd e (by omega), fun e e12 => ⟨rfl, ?_⟩⟩
            have fk : f = kn := by omega
            have k0 : ∀ x, x ≠ 0 → x ≠ 11 → x ≠ 2 → u2 (u2 I6 (A 130) 11 (te + nI 1)) (A 130) 0 (nI 0) (A 130) x = I2 (A 130) x := fun x a b c => by rw [u2_at a, u2_at b, g6 x c]
            have km : ∀ s S, msg I3 A s S → msg (u2 (u2 I6 (A 130) 11 (te + nI 1)) (A 130) 0 (nI 0)) A s S := fun s S h => by rw [hI6, hI5, hI4]; exact (((((h.put5 hm).put0 hm).put5 hm).put0 hm).put0 hm)
            have k5 : ∀ i, i ≠ kn → u2 (u2 I6 (A 130) 11 (te + nI 1)) (A 130) 0 (nI 0) (A 135) i = I2 (A 135) i := fun i hi => by rw [u2_ne (show A 135 ≠ A 130 from hm.ne 5 0 (by decide) (by decide) (by decide)), u2_ne (show A 135 ≠ A 130 from hm.ne 5 0 (by decide) (by decide) (by decide)), hI6, fk, u2_at hi, hI5, u2_ne (show A 135 ≠ A 130 from hm.ne 5 0 (by decide) (by decide) (by decide)), hI4, u2_at hi, hcp.2.2.1, if_neg hi]
            refine ⟨⟨by decide, u2_eq, fun j hj => absurd hj (Nat.not_lt_zero j)⟩, ⟨by omega, by rw [u2_at (by decide), u2_at (by decide), hI6, u2_ne (show A 130 ≠ A 135 from hm.ne 0 5 (by decide) (by decide) (by decide)), hI5, u2_eq], fun i hi => ?_⟩, ⟨by rw [k0 3 (by decide) (by decide) (by decide)]; exact h5, by rw [k0 13 (by decide) (by decide) (by decide)]; exact h6, fun q => km _ _ (hcp.ot (by omega) (h7 q))⟩, ⟨⟨by rw [k0 9 (by decide) (by decide) (by decide)]; exact h8, h8a⟩, by rw [k0 10 (by decide) (by decide) (by decide)]; exact h9, h10⟩, by rw [u2_at (by decide), u2_eq], by rw [k0 12 (by decide) (by decide) (by decide)]; exact h12⟩
            by_cases e9 : i = kn
            · rw [e9, vup_s, vup_s]
              refine ⟨km _ _ (hcp.to (by omega) hS), ?_⟩
              rw [u2_ne (show A 135 ≠ A 130 from hm.ne 5 0 (by decide) (by decide) (by decide)), u2_ne (show A 135 ≠ A 130 from hm.ne 5 0 (by decide) (by decide) (by decide)), hI6, fk, u2_eq]
            · rw [vup_n e9, vup_n e9, k5 i e9]
              exact ⟨km _ _ (hcp.ot e9 (h4 i (by omega)).1), (h4 i (by omega)).2⟩⟩
    · refine v_si (v := (-1004)) hz dX8_keep_43 (by decide) ?_
      exact v_iret hz hr dX8_keep_46 ⟨hF.fo, fun q => absurd c4 q, fun _ => fun f' hf' => by
          have e := hf.one hf'
          subst e
          exact ⟨fun _ => ⟨rfl, hs2⟩, fun e => absurd e (by omega), fun e e2 => absurd e2 (by omega)⟩⟩
  · refine v_si (v := (-1003)) hz dX8_keep_7 (by decide) ?_
    exact v_iret hz hr dX8_keep_10 ⟨hF.fo, fun _ => ⟨rfl, hs2⟩, fun q => absurd q c4⟩
set_option maxHeartbeats 4000000 in
set_option maxRecDepth 100000 in
theorem lp_drop {z : Zz} {κ : Kz} {I0 : Iz} {R : Rz} {J : Jz} {A : Nat → Nat} (hm : LM κ R A) (hz : Am z cX8_drop RX8 3 2) {kn s : Nat} {ks : Nat → Sg} {tm : Nat → Int32} {T : Sg} {x0 : Int32} (hkn : kn ≤ 12) (hsk : s < kn) (e2 : I0 (A 130) 2 = nI (kn - 1)) (K : ∀ I1, (∀ a, a ≠ A 134 → a ≠ A 135 → a ≠ A 136 → a ≠ A 137 → a ≠ A 138 → I1 a = I0 a) → (∀ i, i < kn - 1 → msg I1 A i (dlt ks s i) ∧ I1 (A 135) i = dlt tm s i) → (∀ T, msg I0 A 12 T → msg I1 A 12 T) → V z 3 0 0 46 [(0, .ref (A 130))] [] κ I1 R J) :
    ∀ (m k : Nat) (I : Iz), s ≤ k → k ≤ kn - 1 → kn ≤ k + m → (∀ a, a ≠ A 134 → a ≠ A 135 → a ≠ A 136 → a ≠ A 137 → a ≠ A 138 → I a = I0 a) → (∀ i, i < kn → msg I A i (dlk ks s k i) ∧ I (A 135) i = dlk tm s k i) → (∀ T, msg I0 A 12 T → msg I A 12 T) → V z 3 0 0 24 [(0, .ref (A 130)), (1, .int x0), (2, .int (nI k))] [] κ I R J := by
  have hk := hm.k
  have ho := hm.o
  intro m
  induction m with
  | zero => intro k I hk8 hk9 hm9; exact absurd hm9 (by omega)
  | succ m ih =>
  intro k I hk8 hk9 hm9 hF hsl hT
  have x2 : I (A 130) = I0 (A 130) := hF _ (show A 130 ≠ A 134 from hm.ne 0 4 (by decide) (by decide) (by decide)) (show A 130 ≠ A 135 from hm.ne 0 5 (by decide) (by decide) (by decide)) (show A 130 ≠ A 136 from hm.ne 0 6 (by decide) (by decide) (by decide)) (show A 130 ≠ A 137 from hm.ne 0 7 (by decide) (by decide) (by decide)) (show A 130 ≠ A 138 from hm.ne 0 8 (by decide) (by decide) (by decide))
  refine v_iload_n hz dX8_drop_24 rfl ?_
  refine v_aload_n hz dX8_drop_25 rfl ?_
  refine v_getI hz fX8_107 (by assumption) dX8_drop_26 ?_
  refine v_top (y := nI (kn - 1)) (by rw [x2]; exact e2) ?_
  first | with_reducible refine v_icmp_geN hz 46 (by omega) (by omega) dX8_drop_29 (by decide) (fun c29 => ?_) (fun c29 => ?_) | refine v_icmp_ge hz 46 dX8_drop_29 (by decide) (fun c29 => ?_) (fun c29 => ?_)
  · refine v_sub (K I hF (fun i hi => ?_) hT) ⟨rfl, trivial⟩
    have e : ∀ {α : Type} (f : Nat → α), dlt f s i = dlk f s k i := fun f => by
      unfold dlt dlk
      by_cases q : i < s
      · rw [if_pos q, if_neg (by omega)]
      · rw [if_neg q, if_pos (by omega)]
    rw [e ks, e tm]
    exact hsl i (by omega)
  · refine v_aload_n hz dX8_drop_32 rfl ?_
    refine v_iload_n hz dX8_drop_33 rfl ?_
    refine v_ic (v := nI 1) hz dX8_drop_34 (by decide) ?_
    first | with_reducible refine v_iaddN hz dX8_drop_35 ?_ | refine v_iadd hz dX8_drop_35 ?_
    refine v_iload_n hz dX8_drop_36 rfl ?_
    refine v_callVv hz lX8_113 (cX8_copy_ok _ _ _ _ _ _ A hm (k + 1) k (by omega) (by omega) (by omega)) (by assumption) rfl rfl (Nat.le_of_ble_eq_true rfl) (by decide) ⟨Nat.zero_le _, Nat.zero_le _⟩ dX8_drop_37 (fun I2 hcp => ?_)
    first | refine v_iincN hz 1 dX8_drop_40 (by decide) rfl (by decide) rfl ?_ | refine v_iinc hz dX8_drop_40 rfl (by decide) rfl ?_
    refine v_goto hz 24 dX8_drop_43 (by decide) ?_
    refine v_sub (ih (k + 1) I2 (by omega) (by omega) (by omega) (fun a a1 a2 a3 a4 a5 => by rw [hcp.1 a a1 a2 a3 a4 a5]; exact hF a a1 a2 a3 a4 a5) (fun i hi => ?_) (fun T q => hcp.ot (by omega) (hT T q))) ⟨rfl, rfl, rfl, trivial⟩
    by_cases e : i = k
    · have e1 : ∀ {α : Type} (f : Nat → α), dlk f s (k + 1) i = dlk f s k (k + 1) := fun f => by
        unfold dlk
        rw [if_pos (by omega), if_neg (by omega), e]
      rw [e1 ks, e1 tm, e]
      exact ⟨hcp.to (by omega) (hsl (k + 1) (by omega)).1, by rw [hcp.2.2.1, if_pos rfl]; exact (hsl (k + 1) (by omega)).2⟩
    · have e1 : ∀ {α : Type} (f : Nat → α), dlk f s (k + 1) i = dlk f s k i := fun f => by
        unfold dlk
        by_cases q : s ≤ i ∧ i < k
        · rw [if_pos (by omega), if_pos q]
        · rw [if_neg (by omega), if_neg q]
      rw [e1 ks, e1 tm]
      exact ⟨hcp.ot e (hsl i hi).1, by rw [hcp.2.2.1, if_neg e]; exact (hsl i hi).2⟩
set_option maxHeartbeats 4000000 in
set_option maxRecDepth 100000 in
theorem cX8_drop_ok (l : Launch) (g : Gz) (κ : Kz) (I : Iz) (R : Rz) (J : Jz) (A : Nat → Nat) (hm : LM κ R A) (pg : Nat → Nat) (n kn : Nat) (ks : Nat → Sg) (tm : Nat → Int32) (T : Sg) (qa w bd : Nat) (te td : Int32) (hs : MS I A pg n kn ks tm T qa w bd te td) (x : Int32) : Ct l mX8_drop 0 0 g [.ref (A 130), .int x] κ I R J (Si κ R J (fun r I1 => Fo A I I1 ∧ (¬ (0 ≤ x ∧ x < nI kn) → r = -1001 ∧ MS I1 A pg n kn ks tm T qa w bd te td) ∧ ∀ s, s < kn → x = nI s → r = nI (kn - 1) ∧ MS I1 A pg n (kn - 1) (dlt ks s) (dlt tm s) T qa w bd te (td + nI 1))) := by
  refine ct_of (by decide) (Nat.le_of_ble_eq_true rfl) ?_
  intro z hz hr hrc hrs
  have hz : Am z cX8_drop RX8 3 2 := hz
  have hr : Rt z yX8_drop (some .int) 0 0 _ := hr
  show V z 3 0 0 0 [(0, .ref (A 130)), (1, .int x)] [] κ I R J
  have hk := hm.k
  have ho := hm.o
  obtain ⟨⟨h0, h0a, h0b⟩, ⟨h2, h3, h4⟩, ⟨h5, h6, h7⟩, ⟨⟨h8, h8a⟩, h9, h10⟩, h11, h12⟩ := id hs
  refine v_aload_n hz dX8_drop_0 rfl ?_
  refine v_iload_n hz dX8_drop_1 rfl ?_
  refine v_callVi hz lX8_120 (cX8_isKept_ok _ _ _ _ _ _ A hm kn x h2 h3) (by assumption) rfl rfl (Nat.le_of_ble_eq_true rfl) (by decide) ⟨Nat.zero_le _, Nat.zero_le _⟩ dX8_drop_2 (fun r I2 hk2 => ?_)
  obtain ⟨rfl, eI⟩ := hk2
  rw [eI]
  first | with_reducible refine v_if_neB hz 12 dX8_drop_5 (by decide) (fun c5 => ?_) (fun c5 => ?_) | with_reducible refine v_if_neN hz 12 (by omega) dX8_drop_5 (by decide) (fun c5 => ?_) (fun c5 => ?_) | refine v_if_ne hz 12 dX8_drop_5 (by decide) (fun c5 => ?_) (fun c5 => ?_)
  · obtain ⟨s, rfl, hsk⟩ := kpt_of (by omega) c5
    refine v_aload_n hz dX8_drop_12 rfl ?_
    refine v_dup hz dX8_drop_13 rfl ?_
    refine v_getI hz fX8_107 (by assumption) dX8_drop_14 ?_
    refine v_top h3 ?_
    refine v_ic (v := nI 1) hz dX8_drop_17 (by decide) ?_
    refine v_isubN hz (by omega) dX8_drop_18 ?_
    refine v_putI hz fX8_107 (by assumption) dX8_drop_19 ?_
    refine v_iload_n hz dX8_drop_22 rfl ?_
    refine v_istore_n hz dX8_drop_23 (by decide) rfl ?_
    refine v_sub (lp_drop hm hz (I0 := u2 I (A 130) 2 (nI (kn - 1))) (ks := ks) (tm := tm) (T := T) (s := s) h2 hsk u2_eq (fun I2 hF hsl hT => ?_) kn s _ (Nat.le_refl _) (by omega) (by omega) (fun _ _ _ _ _ _ => rfl) (fun i hi => ?_) (fun _ q => q)) ⟨rfl, rfl, rfl, trivial⟩
    · have x0 : I2 (A 130) = u2 I (A 130) 2 (nI (kn - 1)) (A 130) := hF _ (show A 130 ≠ A 134 from hm.ne 0 4 (by decide) (by decide) (by decide)) (show A 130 ≠ A 135 from hm.ne 0 5 (by decide) (by decide) (by decide)) (show A 130 ≠ A 136 from hm.ne 0 6 (by decide) (by decide) (by decide)) (show A 130 ≠ A 137 from hm.ne 0 7 (by decide) (by decide) (by decide)) (show A 130 ≠ A 138 from hm.ne 0 8 (by decide) (by decide) (by decide))
      refine v_aload_n hz dX8_drop_46 rfl ?_
      refine v_dup hz dX8_drop_47 rfl ?_
      refine v_getI hz fX8_123 (by assumption) dX8_drop_48 ?_
      refine v_top (y := td) (by rw [x0, u2_at (by decide)]; exact h12) ?_
      refine v_ic (v := nI 1) hz dX8_drop_51 (by decide) ?_
      first | with_reducible refine v_iaddN hz dX8_drop_52 ?_ | refine v_iadd hz dX8_drop_52 ?_
      refine v_putI hz fX8_123 (by assumption) dX8_drop_53 ?_
      refine v_aload_n hz dX8_drop_56 rfl ?_
      refine v_getI hz fX8_107 (by assumption) dX8_drop_57 ?_
      refine v_top (y := nI (kn - 1)) (by rw [u2_at (by decide), x0, u2_eq]) ?_
      exact v_iret hz hr dX8_drop_60 ⟨(fun a q => by rw [u2_ne (q 130 (by decide) (by decide)), hF a (q 134 (by decide) (by decide)) (q 135 (by decide) (by decide)) (q 136 (by decide) (by decide)) (q 137 (by decide) (by decide)) (q 138 (by decide) (by decide)), u2_ne (q 130 (by decide) (by decide))]), fun q => absurd c5 q, fun s' hs' e => ⟨rfl, by
          have e : s = s' := (nI_eq (by omega) (by omega)).mp e
          subst e
          have k0 : ∀ y, y ≠ 2 → y ≠ 12 → u2 I2 (A 130) 12 (td + nI 1) (A 130) y = I (A 130) y := fun y a b => by rw [u2_at b, x0, u2_at a]
          have e1 : I2 (A 131) = I (A 131) := by rw [hF _ (show A 131 ≠ A 134 from hm.ne 1 4 (by decide) (by decide) (by decide)) (show A 131 ≠ A 135 from hm.ne 1 5 (by decide) (by decide) (by decide)) (show A 131 ≠ A 136 from hm.ne 1 6 (by decide) (by decide) (by decide)) (show A 131 ≠ A 137 from hm.ne 1 7 (by decide) (by decide) (by decide)) (show A 131 ≠ A 138 from hm.ne 1 8 (by decide) (by decide) (by decide)), u2_ne (show A 131 ≠ A 130 from hm.ne 1 0 (by decide) (by decide) (by decide))]
          exact ⟨⟨h0, by rw [k0 0 (by decide) (by decide)]; exact h0a, fun j hj => by rw [u2_ne (show A 131 ≠ A 130 from hm.ne 1 0 (by decide) (by decide) (by decide)), e1]; exact h0b j hj⟩, ⟨by omega, by rw [u2_at (by decide), x0, u2_eq], fun i hi => ⟨(hsl i hi).1.put0 hm, by rw [u2_ne (show A 135 ≠ A 130 from hm.ne 5 0 (by decide) (by decide) (by decide))]; exact (hsl i hi).2⟩⟩, ⟨by rw [k0 3 (by decide) (by decide)]; exact h5, by rw [k0 13 (by decide) (by decide)]; exact h6, fun q => (hT _ ((h7 q).put0 hm)).put0 hm⟩, ⟨⟨by rw [k0 9 (by decide) (by decide)]; exact h8, h8a⟩, by rw [k0 10 (by decide) (by decide)]; exact h9, h10⟩, by rw [k0 11 (by decide) (by decide)]; exact h11, u2_eq⟩⟩⟩
    · have e : ∀ {α : Type} (f : Nat → α), dlk f s s i = f i := fun f => by
        unfold dlk
        rw [if_neg (by omega)]
      rw [e ks, e tm, u2_ne (show A 135 ≠ A 130 from hm.ne 5 0 (by decide) (by decide) (by decide))]
      exact ⟨(h4 i hi).1.put0 hm, (h4 i hi).2⟩
  · refine v_si (v := (-1001)) hz dX8_drop_8 (by decide) ?_
    exact v_iret hz hr dX8_drop_11 ⟨Fo.rf, fun _ => ⟨rfl, hs⟩, fun s hs9 e => absurd (by rw [e]; exact kpt_to (by omega) hs9) c5⟩
set_option maxHeartbeats 4000000 in
set_option maxRecDepth 100000 in
theorem cX8_ask_ok (l : Launch) (g : Gz) (κ : Kz) (I : Iz) (R : Rz) (J : Jz) (A : Nat → Nat) (hm : LM κ R A) (pg : Nat → Nat) (n kn : Nat) (ks : Nat → Sg) (tm : Nat → Int32) (T : Sg) (qa w bd : Nat) (te td : Int32) (hs : MS I A pg n kn ks tm T qa w bd te td) : Ct l mX8_ask 0 0 g [.ref (A 130)] κ I R J (Si κ R J (fun r I1 => Fo A I I1 ∧ (¬ segB pg n = true → r = -1003 ∧ MS I1 A pg n kn ks tm T qa w bd te td) ∧ (segB pg n = true → r = nI (sgOf pg n).1 ∧ MS I1 A pg 0 kn ks tm (sgOf pg n) (qa + 1) w bd te td))) := by
  refine ct_of (by decide) (Nat.le_of_ble_eq_true rfl) ?_
  intro z hz hr hrc hrs
  have hz : Am z cX8_ask RX8 1 6 := hz
  have hr : Rt z yX8_ask (some .int) 0 0 _ := hr
  show V z 1 0 0 0 [(0, .ref (A 130))] [] κ I R J
  have hk := hm.k
  have ho := hm.o
  have hR4 := hm.r4
  have hK4 := hm.k4
  have hN4 := hm.n4
  have hO4 := hm.o4
  refine v_aload_n hz dX8_ask_0 rfl ?_
  refine v_callVi hz lX8_103 (cX8_isSegment_ok _ _ _ _ _ _ A hm n pg hs.1) (by assumption) rfl rfl (Nat.le_of_ble_eq_true rfl) (by decide) ⟨Nat.zero_le _, Nat.zero_le _⟩ dX8_ask_1 (fun r I2 h1 => ?_)
  obtain ⟨rfl, hF, hS⟩ := h1
  have hs2 := hF.ms hm hs
  have hn48 := hs.1.1
  obtain ⟨⟨m0, m0a, m0b⟩, ⟨h2, h3, h4⟩, ⟨h5, h6, h7⟩, ⟨⟨h8, h8a⟩, h9, h10⟩, h11, h12⟩ := id hs2
  first | with_reducible refine v_if_neB hz 11 dX8_ask_4 (by decide) (fun c4 => ?_) (fun c4 => ?_) | with_reducible refine v_if_neN hz 11 (by omega) dX8_ask_4 (by decide) (fun c4 => ?_) (fun c4 => ?_) | refine v_if_ne hz 11 dX8_ask_4 (by decide) (fun c4 => ?_) (fun c4 => ?_)
  · have hS := hS c4
    refine v_aload_n hz dX8_ask_11 rfl ?_
    refine v_bi (v := nI 13) hz dX8_ask_12 (by decide) ?_
    refine v_bi (v := nI 12) hz dX8_ask_14 (by decide) ?_
    refine v_callVv hz lX8_113 (cX8_copy_ok _ _ _ _ _ _ A hm 13 12 (by decide) (by decide) (by decide)) (by assumption) rfl rfl (Nat.le_of_ble_eq_true rfl) (by decide) ⟨Nat.zero_le _, Nat.zero_le _⟩ dX8_ask_16 (fun I3 hcp => ?_)
    have g3 : I3 (A 130) = I2 (A 130) := hcp.1 _ (show A 130 ≠ A 134 from hm.ne 0 4 (by decide) (by decide) (by decide)) (show A 130 ≠ A 135 from hm.ne 0 5 (by decide) (by decide) (by decide)) (show A 130 ≠ A 136 from hm.ne 0 6 (by decide) (by decide) (by decide)) (show A 130 ≠ A 137 from hm.ne 0 7 (by decide) (by decide) (by decide)) (show A 130 ≠ A 138 from hm.ne 0 8 (by decide) (by decide) (by decide))
    refine v_aload_n hz dX8_ask_19 rfl ?_
    refine v_ic (v := nI 1) hz dX8_ask_20 (by decide) ?_
    refine v_putZ hz fX8_126 (by assumption) (by first | exact Or.inl rfl | exact Or.inr rfl | exact bz_01) dX8_ask_21 ?_
    refine v_aload_n hz dX8_ask_24 rfl ?_
    refine v_dup hz dX8_ask_25 rfl ?_
    refine v_getI hz fX8_130 (by assumption) dX8_ask_26 ?_
    refine v_top (y := nI qa) (by rw [u2_at (by decide), g3]; exact h6) ?_
    refine v_ic (v := nI 1) hz dX8_ask_29 (by decide) ?_
    first | with_reducible refine v_iaddN hz dX8_ask_30 ?_ | refine v_iadd hz dX8_ask_30 ?_
    refine v_putI hz fX8_130 (by assumption) dX8_ask_31 ?_
    refine v_aload_n hz dX8_ask_34 rfl ?_
    refine v_ic (v := nI 0) hz dX8_ask_35 (by decide) ?_
    refine v_putI hz fX8_79 (by assumption) dX8_ask_36 ?_
    refine v_gen (fun I9 hI9 => ?_)
    refine v_aload_n hz dX8_ask_39 rfl ?_
    refine v_getR hz fX8_13 (by assumption) (by assumption) dX8_ask_40 ?_
    refine v_bi (v := nI 12) hz dX8_ask_43 (by decide) ?_
    refine v_ialdN hz (by assumption) (by assumption) (by omega) (by decide) dX8_ask_45 ?_
    refine v_top (y := nI (sgOf pg n).1) (by rw [hI9, u2_ne (show A 134 ≠ A 130 from hm.ne 4 0 (by decide) (by decide) (by decide)), u2_ne (show A 134 ≠ A 130 from hm.ne 4 0 (by decide) (by decide) (by decide)), u2_ne (show A 134 ≠ A 130 from hm.ne 4 0 (by decide) (by decide) (by decide))]; exact (hcp.to (by decide) hS).2.2.1) ?_
    exact v_iret hz hr dX8_ask_46 ⟨hF.fo.tr (hcp.fo.tr (by rw [hI9]; exact ((Fo.rf.put (by decide) (by decide)).put (by decide) (by decide)).put (by decide) (by decide))), fun q => absurd c4 q, fun _ => ⟨rfl, by
        have k0 : ∀ x, x ≠ 0 → x ≠ 3 → x ≠ 13 → I9 (A 130) x = I2 (A 130) x := fun x a b c => by rw [hI9, u2_at a, u2_at c, u2_at b, g3]
        have km : ∀ s S, msg I3 A s S → msg I9 A s S := fun s S h => by rw [hI9]; exact ((h.put0 hm).put0 hm).put0 hm
        exact ⟨⟨by decide, by rw [hI9, u2_eq], fun j hj => absurd hj (Nat.not_lt_zero j)⟩, ⟨h2, by rw [k0 2 (by decide) (by decide) (by decide)]; exact h3, fun i hi => ⟨km _ _ (hcp.ot (by omega) (h4 i hi).1), by rw [hI9, u2_ne (show A 135 ≠ A 130 from hm.ne 5 0 (by decide) (by decide) (by decide)), u2_ne (show A 135 ≠ A 130 from hm.ne 5 0 (by decide) (by decide) (by decide)), u2_ne (show A 135 ≠ A 130 from hm.ne 5 0 (by decide) (by decide) (by decide)), hcp.2.2.1, if_neg (by omega)]; exact (h4 i hi).2⟩⟩, ⟨by rw [hI9, u2_at (by decide), u2_at (by decide), u2_eq]; exact (bz_t (Nat.succ_pos _)).symm, by rw [hI9, u2_at (by decide), u2_eq], fun _ => km _ _ (hcp.to (by decide) hS)⟩, ⟨⟨by rw [k0 9 (by decide) (by decide) (by decide)]; exact h8, h8a⟩, by rw [k0 10 (by decide) (by decide) (by decide)]; exact h9, h10⟩, by rw [k0 11 (by decide) (by decide) (by decide)]; exact h11, by rw [k0 12 (by decide) (by decide) (by decide)]; exact h12⟩⟩⟩
  · refine v_si (v := (-1003)) hz dX8_ask_7 (by decide) ?_
    exact v_iret hz hr dX8_ask_10 ⟨hF.fo, fun _ => ⟨rfl, hs2⟩, fun q => absurd q c4⟩
