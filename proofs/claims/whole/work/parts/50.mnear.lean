/-! ===== the reference: near, step, ranks ===== -/
theorem pos_mono (w : Nat) (S T : Sg) (k : Nat) : ∀ d, (pos w S T k).1 ≤ (pos w S T (k + d)).1 ∧ (pos w S T k).2 ≤ (pos w S T (k + d)).2
  | 0 => ⟨Nat.le_refl _, Nat.le_refl _⟩
  | d + 1 => by
    have ih := pos_mono w S T k d
    have e : pos w S T (k + (d + 1)) = nxt w S T (pos w S T (k + d)) := rfl
    rw [e]
    unfold nxt
    split
    · exact ⟨by dsimp only; omega, by dsimp only; omega⟩
    · split
      · exact ⟨by dsimp only; omega, by dsimp only; omega⟩
      · exact ⟨by dsimp only; omega, by dsimp only; omega⟩
theorem ns_rng {w : Nat} {S T : Sg} {K k : Nat} (h : isNs w S T K) (hk : k < K) : (knd w S T (pos w S T k).1 (pos w S T k).2 = 2 → (pos w S T k).2 < T.1) ∧ (knd w S T (pos w S T k).1 (pos w S T k).2 ≠ 2 → (pos w S T k).1 < S.1) := by
  have hm := pos_mono w S T (k + 1) (K - (k + 1))
  rw [show k + 1 + (K - (k + 1)) = K by omega, h.1] at hm
  dsimp only at hm
  have e : pos w S T (k + 1) = nxt w S T (pos w S T k) := rfl
  rw [e] at hm
  constructor
  · intro q
    unfold nxt at hm
    rw [if_neg (by omega), if_neg (by omega)] at hm
    have := hm.2
    dsimp only at this
    omega
  · intro q
    have q2 := knd_le w S T (pos w S T k).1 (pos w S T k).2
    unfold knd at q
    split at q
    · rename_i h4; exact h4.1
    · split at q
      · rename_i h4; exact h4.1
      · exact absurd rfl q
theorem ite01_le (p : Prop) [Decidable p] : (if p then 1 else 0) ≤ 1 := by split <;> omega
theorem ttg_s (w : Nat) (S T : Sg) (k : Nat) : ttg w S T (k + 1) = ttg w S T k + (if 0 < stc w S T k ∧ (if knd w S T (pos w S T k).1 (pos w S T k).2 = 2 then T.2.1 (pos w S T k).2 = 0 else S.2.1 (pos w S T k).1 = 0) then 1 else 0) := rfl
theorem ttg_le (w : Nat) (S T : Sg) : ∀ k, ttg w S T k ≤ k
  | 0 => Nat.le_refl _
  | k + 1 => by
    have := ttg_le w S T k
    rw [ttg_s]
    have := ite01_le (0 < stc w S T k ∧ (if knd w S T (pos w S T k).1 (pos w S T k).2 = 2 then T.2.1 (pos w S T k).2 = 0 else S.2.1 (pos w S T k).1 = 0))
    omega
theorem ttg_s2 {w : Nat} {S T : Sg} {k : Nat} (h : knd w S T (pos w S T k).1 (pos w S T k).2 = 2) : ttg w S T (k + 1) = ttg w S T k + (if 0 < stc w S T k ∧ T.2.1 (pos w S T k).2 = 0 then 1 else 0) := by
  rw [ttg_s]
  by_cases q : 0 < stc w S T k ∧ T.2.1 (pos w S T k).2 = 0
  · rw [if_pos q, if_pos ⟨q.1, by rw [if_pos h]; exact q.2⟩]
  · rw [if_neg q, if_neg (fun r => q ⟨r.1, by have := r.2; rw [if_pos h] at this; exact this⟩)]
theorem ttg_s1 {w : Nat} {S T : Sg} {k : Nat} (h : knd w S T (pos w S T k).1 (pos w S T k).2 ≠ 2) : ttg w S T (k + 1) = ttg w S T k + (if 0 < stc w S T k ∧ S.2.1 (pos w S T k).1 = 0 then 1 else 0) := by
  rw [ttg_s]
  by_cases q : 0 < stc w S T k ∧ S.2.1 (pos w S T k).1 = 0
  · rw [if_pos q, if_pos ⟨q.1, by rw [if_neg h]; exact q.2⟩]
  · rw [if_neg q, if_neg (fun r => q ⟨r.1, by have := r.2; rw [if_neg h] at this; exact this⟩)]
set_option maxHeartbeats 4000000 in
set_option maxRecDepth 100000 in
theorem lp_tagSteps {z : Zz} {κ : Kz} {I : Iz} {R : Rz} {J : Jz} {A : Nat → Nat} (hm : LM κ R A) (hz : Am z cX8_tagSteps RX8 5 6) {s w K : Nat} {S T : Sg} (h1 : msg I A s S) (h2 : msg I A 12 T) (o1 : okS S) (o2 : okS T) (w20 : w ≤ 20) (hK : stpM I A w S T K) {P : Postz} (hr : Rt z yX8_tagSteps (some .int) 0 0 P) (hP : P (some (.int (nI (ttg w S T K)))) κ I R J) :
    ∀ (m k : Nat), k ≤ K → K + 1 ≤ k + m → V z 5 0 0 11 [(0, .ref (A 130)), (1, .int (nI s)), (2, .int (nI (ttg w S T k))), (3, .int (nI k))] [] κ I R J := by
  have hk := hm.k
  have ho := hm.o
  have hR19 := hm.r19
  have hK19 := hm.k19
  have hN19 := hm.n19
  have hO19 := hm.o19
  have hR20 := hm.r20
  have hK20 := hm.k20
  have hN20 := hm.n20
  have hO20 := hm.o20
  have hR21 := hm.r21
  have hK21 := hm.k21
  have hN21 := hm.n21
  have hO21 := hm.o21
  have hR22 := hm.r22
  have hK22 := hm.k22
  have hN22 := hm.n22
  have hO22 := hm.o22
  obtain ⟨n1, n2, n3, n4⟩ := id hK
  have s8 := h1.2.1
  have t8 := h2.2.1
  have s14 := h1.1
  intro m
  induction m with
  | zero => intro k hk9 hm9; exact absurd hm9 (by omega)
  | succ m ih =>
  intro k hk9 hm9
  have kl := knd_le w S T (pos w S T k).1 (pos w S T k).2
  have sl := stc_b (k := k) o1 o2 w20
  have tl := ttg_le w S T k
  refine v_iload_n hz dX8_tagSteps_11 rfl ?_
  refine v_aload_n hz dX8_tagSteps_12 rfl ?_
  refine v_getI hz fX8_154 (by assumption) dX8_tagSteps_13 ?_
  refine v_top n3 ?_
  first | with_reducible refine v_icmp_geN hz 86 (by omega) (by omega) dX8_tagSteps_16 (by decide) (fun c16 => ?_) (fun c16 => ?_) | refine v_icmp_ge hz 86 dX8_tagSteps_16 (by decide) (fun c16 => ?_) (fun c16 => ?_)
  · exact v_iload_n hz dX8_tagSteps_86 rfl (v_iret0 hz hr dX8_tagSteps_87 (by rw [show k = K by omega]; exact hP))
  · have rg := ns_rng n1 (show k < K by omega)
    have n4 := n4 k (by omega)
    refine v_aload_n hz dX8_tagSteps_19 rfl ?_
    refine v_getR hz fX8_44 (by assumption) (by assumption) dX8_tagSteps_20 ?_
    refine v_iload_n hz dX8_tagSteps_23 rfl ?_
    refine v_ialdN hz (by assumption) (by assumption) (by omega) (by decide) dX8_tagSteps_24 ?_
    refine v_top (y := nI (knd w S T (pos w S T k).1 (pos w S T k).2)) n4.1 ?_
    refine v_ic (v := nI 2) hz dX8_tagSteps_25 (by decide) ?_
    refine v_join2 52 (if knd w S T (pos w S T k).1 (pos w S T k).2 = 2 then nI (8 * 12 + (pos w S T k).2) else nI (8 * s + (pos w S T k).1)) (fun hj => ?_) ?_
    · first | with_reducible refine v_icmp_neN hz 41 (by omega) (by omega) dX8_tagSteps_26 (by decide) (fun c26 => ?_) (fun c26 => ?_) | refine v_icmp_ne hz 41 dX8_tagSteps_26 (by decide) (fun c26 => ?_) (fun c26 => ?_)
      · refine v_bi (v := nI 8) hz dX8_tagSteps_41 (by decide) ?_
        refine v_iload_n hz dX8_tagSteps_43 rfl ?_
        first | with_reducible refine v_imulN hz dX8_tagSteps_44 ?_ | refine v_imul hz dX8_tagSteps_44 ?_
        refine v_aload_n hz dX8_tagSteps_45 rfl ?_
        refine v_getR hz fX8_50 (by assumption) (by assumption) dX8_tagSteps_46 ?_
        refine v_iload_n hz dX8_tagSteps_49 rfl ?_
        refine v_ialdN hz (by assumption) (by assumption) (by omega) (by decide) dX8_tagSteps_50 ?_
        refine v_top (y := nI (pos w S T k).1) (by rw [n4.2.2.1]; unfold st2; rw [if_neg (by omega)]) ?_
        first | with_reducible refine v_iaddN hz dX8_tagSteps_51 ?_ | refine v_iadd hz dX8_tagSteps_51 ?_
        exact v_top (by first | (rw [if_pos (by omega)]) | (rw [if_neg (by omega)])) hj
      · refine v_bi (v := nI 96) hz dX8_tagSteps_29 (by decide) ?_
        refine v_aload_n hz dX8_tagSteps_31 rfl ?_
        refine v_getR hz fX8_53 (by assumption) (by assumption) dX8_tagSteps_32 ?_
        refine v_iload_n hz dX8_tagSteps_35 rfl ?_
        refine v_ialdN hz (by assumption) (by assumption) (by omega) (by decide) dX8_tagSteps_36 ?_
        refine v_top (y := nI (pos w S T k).2) (by rw [n4.2.2.2]; unfold st3; rw [if_neg (by omega)]) ?_
        first | with_reducible refine v_iaddN hz dX8_tagSteps_37 ?_ | refine v_iadd hz dX8_tagSteps_37 ?_
        refine v_goto hz 52 dX8_tagSteps_38 (by decide) ?_
        exact v_top (by first | (rw [if_pos (by omega)]) | (rw [if_neg (by omega)])) hj
    by_cases k2 : knd w S T (pos w S T k).1 (pos w S T k).2 = 2
    · have r2 := rg.1 k2
      rw [if_pos k2]
      refine v_istore hz dX8_tagSteps_52 (by decide) rfl ?_
      refine v_iload_n hz dX8_tagSteps_54 rfl ?_
      refine v_aload_n hz dX8_tagSteps_55 rfl ?_
      refine v_iload hz dX8_tagSteps_56 rfl ?_
      refine v_callVi hz lX8_140 (cX8_isWord_ok _ _ _ _ _ _ A hm _ _ (by omega) ((h2.2.2.2 _ r2).1).2.1 ((h2.2.2.2 _ r2).1).2.2.1) (by assumption) rfl rfl (Nat.le_of_ble_eq_true rfl) (by decide) ⟨Nat.zero_le _, Nat.zero_le _⟩ dX8_tagSteps_58 (fun r I2 q58 => ?_)
      obtain ⟨rfl, eIq58⟩ := q58
      rw [eIq58]
      refine v_join 78 (nI (if 0 < stc w S T k ∧ T.2.1 (pos w S T k).2 = 0 then 1 else 0)) (fun hj => ?_) ?_
      · first | with_reducible refine v_if_neB hz 77 dX8_tagSteps_61 (by decide) (fun c61 => ?_) (fun c61 => ?_) | with_reducible refine v_if_neN hz 77 (by omega) dX8_tagSteps_61 (by decide) (fun c61 => ?_) (fun c61 => ?_) | refine v_if_ne hz 77 dX8_tagSteps_61 (by decide) (fun c61 => ?_) (fun c61 => ?_)
        · refine v_ic (v := nI 0) hz dX8_tagSteps_77 (by decide) ?_
          exact v_top (by first | (rw [if_neg (fun q => absurd c61 (by omega))]) | (rw [if_neg (by omega)]) | (rw [if_pos (by omega)])) hj
        · refine v_aload_n hz dX8_tagSteps_64 rfl ?_
          refine v_getR hz fX8_47 (by assumption) (by assumption) dX8_tagSteps_65 ?_
          refine v_iload_n hz dX8_tagSteps_68 rfl ?_
          refine v_ialdN hz (by assumption) (by assumption) (by omega) (by decide) dX8_tagSteps_69 ?_
          refine v_top (y := nI (stc w S T k)) n4.2.1 ?_
          first | with_reducible refine v_if_leN hz 77 (by omega) dX8_tagSteps_70 (by decide) (fun c70 => ?_) (fun c70 => ?_) | refine v_if_le hz 77 dX8_tagSteps_70 (by decide) (fun c70 => ?_) (fun c70 => ?_)
          · refine v_ic (v := nI 0) hz dX8_tagSteps_77 (by decide) ?_
            exact v_top (by first | (rw [if_neg (fun q => absurd c61 (by omega))]) | (rw [if_neg (by omega)]) | (rw [if_pos (by omega)])) hj
          · refine v_ic (v := nI 1) hz dX8_tagSteps_73 (by decide) ?_
            refine v_goto hz 78 dX8_tagSteps_74 (by decide) ?_
            exact v_top (by first | (rw [if_neg (fun q => absurd c61 (by omega))]) | (rw [if_neg (by omega)]) | (rw [if_pos (by omega)])) hj
      first | with_reducible refine v_iaddN hz dX8_tagSteps_78 ?_ | refine v_iadd hz dX8_tagSteps_78 ?_
      refine v_top (y := nI (ttg w S T (k + 1))) (by first | rw [ttg_s2 k2] | rw [ttg_s1 k2]) ?_
      refine v_istore_n hz dX8_tagSteps_79 (by decide) rfl ?_
      first | refine v_iincN hz 1 dX8_tagSteps_80 (by decide) rfl (by decide) rfl ?_ | refine v_iinc hz dX8_tagSteps_80 rfl (by decide) rfl ?_
      refine v_goto hz 11 dX8_tagSteps_83 (by decide) ?_
      exact v_sub (ih (k + 1) (by omega) (by omega)) ⟨rfl, rfl, rfl, rfl, trivial⟩
    · have r2 := rg.2 k2
      rw [if_neg k2]
      refine v_istore hz dX8_tagSteps_52 (by decide) rfl ?_
      refine v_iload_n hz dX8_tagSteps_54 rfl ?_
      refine v_aload_n hz dX8_tagSteps_55 rfl ?_
      refine v_iload hz dX8_tagSteps_56 rfl ?_
      refine v_callVi hz lX8_140 (cX8_isWord_ok _ _ _ _ _ _ A hm _ _ (by omega) ((h1.2.2.2 _ r2).1).2.1 ((h1.2.2.2 _ r2).1).2.2.1) (by assumption) rfl rfl (Nat.le_of_ble_eq_true rfl) (by decide) ⟨Nat.zero_le _, Nat.zero_le _⟩ dX8_tagSteps_58 (fun r I2 q58 => ?_)
      obtain ⟨rfl, eIq58⟩ := q58
      rw [eIq58]
      refine v_join 78 (nI (if 0 < stc w S T k ∧ S.2.1 (pos w S T k).1 = 0 then 1 else 0)) (fun hj => ?_) ?_
      · first | with_reducible refine v_if_neB hz 77 dX8_tagSteps_61 (by decide) (fun c61 => ?_) (fun c61 => ?_) | with_reducible refine v_if_neN hz 77 (by omega) dX8_tagSteps_61 (by decide) (fun c61 => ?_) (fun c61 => ?_) | refine v_if_ne hz 77 dX8_tagSteps_61 (by decide) (fun c61 => ?_) (fun c61 => ?_)
        · refine v_ic (v := nI 0) hz dX8_tagSteps_77 (by decide) ?_
          exact v_top (by first | (rw [if_neg (fun q => absurd c61 (by omega))]) | (rw [if_neg (by omega)]) | (rw [if_pos (by omega)])) hj
        · refine v_aload_n hz dX8_tagSteps_64 rfl ?_
          refine v_getR hz fX8_47 (by assumption) (by assumption) dX8_tagSteps_65 ?_
          refine v_iload_n hz dX8_tagSteps_68 rfl ?_
          refine v_ialdN hz (by assumption) (by assumption) (by omega) (by decide) dX8_tagSteps_69 ?_
          refine v_top (y := nI (stc w S T k)) n4.2.1 ?_
          first | with_reducible refine v_if_leN hz 77 (by omega) dX8_tagSteps_70 (by decide) (fun c70 => ?_) (fun c70 => ?_) | refine v_if_le hz 77 dX8_tagSteps_70 (by decide) (fun c70 => ?_) (fun c70 => ?_)
          · refine v_ic (v := nI 0) hz dX8_tagSteps_77 (by decide) ?_
            exact v_top (by first | (rw [if_neg (fun q => absurd c61 (by omega))]) | (rw [if_neg (by omega)]) | (rw [if_pos (by omega)])) hj
          · refine v_ic (v := nI 1) hz dX8_tagSteps_73 (by decide) ?_
            refine v_goto hz 78 dX8_tagSteps_74 (by decide) ?_
            exact v_top (by first | (rw [if_neg (fun q => absurd c61 (by omega))]) | (rw [if_neg (by omega)]) | (rw [if_pos (by omega)])) hj
      first | with_reducible refine v_iaddN hz dX8_tagSteps_78 ?_ | refine v_iadd hz dX8_tagSteps_78 ?_
      refine v_top (y := nI (ttg w S T (k + 1))) (by first | rw [ttg_s2 k2] | rw [ttg_s1 k2]) ?_
      refine v_istore_n hz dX8_tagSteps_79 (by decide) rfl ?_
      first | refine v_iincN hz 1 dX8_tagSteps_80 (by decide) rfl (by decide) rfl ?_ | refine v_iinc hz dX8_tagSteps_80 rfl (by decide) rfl ?_
      refine v_goto hz 11 dX8_tagSteps_83 (by decide) ?_
      exact v_sub (ih (k + 1) (by omega) (by omega)) ⟨rfl, rfl, rfl, rfl, trivial⟩
set_option maxHeartbeats 4000000 in
set_option maxRecDepth 100000 in
theorem cX8_tagSteps_ok (l : Launch) (g : Gz) (κ : Kz) (I : Iz) (R : Rz) (J : Jz) (A : Nat → Nat) (hm : LM κ R A) (s w : Nat) (S T : Sg) (hw : wt I A w) (h1 : msg I A s S) (h2 : msg I A 12 T) (o1 : okQ S) (o2 : okQ T) : Ct l mX8_tagSteps 0 0 g [.ref (A 130), .int (nI s)] κ I R J (Si κ R J (fun r I1 => r = nI (ttg w S T (nsf w S T)) ∧ QS A I I1 ∧ ttg w S T (nsf w S T) ≤ 16)) := by
  refine ct_of (by decide) (Nat.le_of_ble_eq_true rfl) ?_
  intro z hz hr hrc hrs
  have hz : Am z cX8_tagSteps RX8 5 6 := hz
  have hr : Rt z yX8_tagSteps (some .int) 0 0 _ := hr
  show V z 5 0 0 0 [(0, .ref (A 130)), (1, .int (nI s))] [] κ I R J
  have hk := hm.k
  have ho := hm.o
  have hR19 := hm.r19
  have hK19 := hm.k19
  have hN19 := hm.n19
  have hO19 := hm.o19
  have hR20 := hm.r20
  have hK20 := hm.k20
  have hN20 := hm.n20
  have hO20 := hm.o20
  have hR21 := hm.r21
  have hK21 := hm.k21
  have hN21 := hm.n21
  have hO21 := hm.o21
  have hR22 := hm.r22
  have hK22 := hm.k22
  have hN22 := hm.n22
  have hO22 := hm.o22
  refine v_aload_n hz dX8_tagSteps_0 rfl ?_
  refine v_iload_n hz dX8_tagSteps_1 rfl ?_
  refine v_bi (v := nI 12) hz dX8_tagSteps_2 (by decide) ?_
  refine v_callVv hz lX8_201 (cX8_laySteps_ok _ _ _ _ _ _ A hm w s 12 S T hw h1 h2) (by assumption) rfl rfl (Nat.le_of_ble_eq_true rfl) (by decide) ⟨Nat.zero_le _, Nat.zero_le _⟩ dX8_tagSteps_4 (fun I2 q4 => ?_)
  obtain ⟨hQ, K, hK⟩ := q4
  refine v_ic (v := nI 0) hz dX8_tagSteps_7 (by decide) ?_
  refine v_istore_n hz dX8_tagSteps_8 (by decide) rfl ?_
  refine v_ic (v := nI 0) hz dX8_tagSteps_9 (by decide) ?_
  refine v_istore_n hz dX8_tagSteps_10 (by decide) rfl ?_
  exact v_sub (lp_tagSteps hm hz (hQ.qf.msg hm h1) (hQ.qf.msg hm h2) o1.1 o2.1 hw.2.2 hK hr ⟨rfl, rfl, rfl, _, rfl, by rw [nsf_eq hK.1], hQ, by have a := ttg_le w S T K; have b := hK.2.1; have c := o1.1.2.1; have d := o2.1.2.1; rw [nsf_eq hK.1]; omega⟩ (K + 1) 0 (by omega) (by omega)) ⟨rfl, rfl, rfl, rfl, trivial⟩
set_option maxHeartbeats 4000000 in
set_option maxRecDepth 100000 in
theorem cX8_nearNow_ok (l : Launch) (g : Gz) (κ : Kz) (I : Iz) (R : Rz) (J : Jz) (A : Nat → Nat) (hm : LM κ R A) (s v w bd : Nat) (S T : Sg) (hv : v < 10) (hw : wt I A w) (hb : I (A 130) 10 = nI bd) (hbd : bd ≤ 1000) (h1 : msg I A s S) (h2 : msg I A 12 T) (o1 : okQ S) (o2 : okQ T) : Ct l mX8_nearNow 0 0 g [.ref (A 130), .int (nI s), .int (nI v)] κ I R J (Si κ R J (fun r I1 => r = nrT w bd S T v ∧ QF A I I1)) := by
  refine ct_of (by decide) (Nat.le_of_ble_eq_true rfl) ?_
  intro z hz hr hrc hrs
  have hz : Am z cX8_nearNow RX8 3 8 := hz
  have hr : Rt z yX8_nearNow (some .int) 0 0 _ := hr
  show V z 3 0 0 0 [(0, .ref (A 130)), (1, .int (nI s)), (2, .int (nI v))] [] κ I R J
  have hk := hm.k
  have ho := hm.o
  refine v_iload_n hz dX8_nearNow_0 rfl ?_
  refine v_tsw hz 5 9 [36, 42, 51, 60, 69] 75 dX8_nearNow_1 ⟨rfl, rfl⟩ (by decide) (by decide) (by decide) (fun j1 hj1_1 hj2_1 c1 => ?_) (fun c1 => ?_)
  · rcases (show j1 = 5 ∨ j1 = 6 ∨ j1 = 7 ∨ j1 = 8 ∨ j1 = 9 by omega) with rfl | rfl | rfl | rfl | rfl
    · refine v_pc (pc' := 36) rfl ?_
      have ev : v = 5 := (nI_eq (by omega) (by omega)).mp c1
      subst ev
      refine v_aload_n hz dX8_nearNow_36 rfl ?_
      refine v_iload_n hz dX8_nearNow_37 rfl ?_
      refine v_callVi hz lX8_223 (cX8_roomOf_ok _ _ _ _ _ _ A hm s w bd S T hw hb hbd h1 h2 o1 o2) (by assumption) rfl rfl (Nat.le_of_ble_eq_true rfl) (by decide) ⟨Nat.zero_le _, Nat.zero_le _⟩ dX8_nearNow_38 (fun r I1 h38 => ?_)
      exact v_iret hz hr dX8_nearNow_41 ⟨h38.1, QF.same h38.2⟩
    · refine v_pc (pc' := 42) rfl ?_
      have ev : v = 6 := (nI_eq (by omega) (by omega)).mp c1
      subst ev
      refine v_aload_n hz dX8_nearNow_42 rfl ?_
      refine v_iload_n hz dX8_nearNow_43 rfl ?_
      refine v_callVi hz lX8_226 (cX8_canByLengths_ok _ _ _ _ _ _ A hm s w bd S T hw hb hbd h1 h2 o1 o2) (by assumption) rfl rfl (Nat.le_of_ble_eq_true rfl) (by decide) ⟨Nat.zero_le _, Nat.zero_le _⟩ dX8_nearNow_44 (fun r I1 h44 => ?_)
      obtain ⟨rfl, hQ⟩ := h44
      unfold cbL
      refine v_callSi hz lX8_229 (cX8_bit_ok _ _ _ _ _ _ _) rfl rfl (Nat.le_of_ble_eq_true rfl) (by decide) ⟨Nat.zero_le _, Nat.zero_le _⟩ dX8_nearNow_47 (fun r I3 q47 => ?_)
      obtain ⟨rfl, eI⟩ := q47
      rw [eI]
      exact v_iret hz hr dX8_nearNow_50 ⟨rfl, QF.same hQ⟩
    · refine v_pc (pc' := 51) rfl ?_
      have ev : v = 7 := (nI_eq (by omega) (by omega)).mp c1
      subst ev
      refine v_aload_n hz dX8_nearNow_51 rfl ?_
      refine v_iload_n hz dX8_nearNow_52 rfl ?_
      refine v_callVi hz lX8_233 (cX8_canByGrams_ok _ _ _ _ _ _ A hm s w bd S T hw hb hbd h1 h2 o1 o2) (by assumption) rfl rfl (Nat.le_of_ble_eq_true rfl) (by decide) ⟨Nat.zero_le _, Nat.zero_le _⟩ dX8_nearNow_53 (fun r I1 h53 => ?_)
      obtain ⟨rfl, hQ⟩ := h53
      unfold cbG
      refine v_callSi hz lX8_229 (cX8_bit_ok _ _ _ _ _ _ _) rfl rfl (Nat.le_of_ble_eq_true rfl) (by decide) ⟨Nat.zero_le _, Nat.zero_le _⟩ dX8_nearNow_56 (fun r I3 q56 => ?_)
      obtain ⟨rfl, eI⟩ := q56
      rw [eI]
      exact v_iret hz hr dX8_nearNow_59 ⟨rfl, hQ⟩
    · refine v_pc (pc' := 60) rfl ?_
      have ev : v = 8 := (nI_eq (by omega) (by omega)).mp c1
      subst ev
      refine v_aload_n hz dX8_nearNow_60 rfl ?_
      refine v_iload_n hz dX8_nearNow_61 rfl ?_
      refine v_callVi hz lX8_236 (cX8_isMatch_ok _ _ _ _ _ _ A hm s w bd S T hw hb hbd h1 h2 o1 o2) (by assumption) rfl rfl (Nat.le_of_ble_eq_true rfl) (by decide) ⟨Nat.zero_le _, Nat.zero_le _⟩ dX8_nearNow_62 (fun r I1 h62 => ?_)
      obtain ⟨rfl, hF⟩ := h62
      have hQ := QF.of hm hF
      refine v_callSi hz lX8_229 (cX8_bit_ok _ _ _ _ _ _ _) rfl rfl (Nat.le_of_ble_eq_true rfl) (by decide) ⟨Nat.zero_le _, Nat.zero_le _⟩ dX8_nearNow_65 (fun r I3 q65 => ?_)
      obtain ⟨rfl, eI⟩ := q65
      rw [eI]
      exact v_iret hz hr dX8_nearNow_68 ⟨rfl, hQ⟩
    · refine v_pc (pc' := 69) rfl ?_
      have ev : v = 9 := (nI_eq (by omega) (by omega)).mp c1
      subst ev
      refine v_aload_n hz dX8_nearNow_69 rfl ?_
      refine v_iload_n hz dX8_nearNow_70 rfl ?_
      refine v_callVi hz lX8_239 (cX8_tagSteps_ok _ _ _ _ _ _ A hm s w S T hw h1 h2 o1 o2) (by assumption) rfl rfl (Nat.le_of_ble_eq_true rfl) (by decide) ⟨Nat.zero_le _, Nat.zero_le _⟩ dX8_nearNow_71 (fun r I1 h71 => ?_)
      exact v_iret hz hr dX8_nearNow_74 ⟨h71.1, h71.2.1.qf⟩
  · have ev : v < 5 := by
      by_cases q : v < 5
      · exact q
      · exact (c1 ⟨v, by omega, by omega, rfl⟩).elim
    refine v_aload_n hz dX8_nearNow_75 rfl ?_
    refine v_iload_n hz dX8_nearNow_76 rfl ?_
    refine v_bi (v := nI 12) hz dX8_nearNow_77 (by decide) ?_
    refine v_iload_n hz dX8_nearNow_79 rfl ?_
    refine v_callVi hz lX8_213 (cX8_twoNow_ok _ _ _ _ _ _ A hm s 12 v w S T ev hw h1 h2 o1 o2) (by assumption) rfl rfl (Nat.le_of_ble_eq_true rfl) (by decide) ⟨Nat.zero_le _, Nat.zero_le _⟩ dX8_nearNow_80 (fun r I1 h80 => ?_)
    exact v_iret hz hr dX8_nearNow_83 ⟨by unfold nrT; rw [if_neg (by omega), if_neg (by omega), if_neg (by omega), if_neg (by omega), if_neg (by omega)]; exact h80.1, h80.2⟩
set_option maxHeartbeats 4000000 in
set_option maxRecDepth 100000 in
theorem cX8_near_ok (l : Launch) (g : Gz) (κ : Kz) (I : Iz) (R : Rz) (J : Jz) (A : Nat → Nat) (hm : LM κ R A) (pg : Nat → Nat) (n kn : Nat) (ks : Nat → Sg) (tm : Nat → Int32) (T : Sg) (qa w bd : Nat) (te td : Int32) (hs : MS I A pg n kn ks tm T qa w bd te td) (hv : ∀ i, i < kn → okQ (ks i)) (hvT : 0 < qa → okQ T) (x v : Int32) : Ct l mX8_near 0 0 g [.ref (A 130), .int x, .int v] κ I R J (Si κ R J (fun r I1 => r = nerR kn ks T qa w bd x v ∧ QF A I I1)) := by
  refine ct_of (by decide) (Nat.le_of_ble_eq_true rfl) ?_
  intro z hz hr hrc hrs
  have hz : Am z cX8_near RX8 3 9 := hz
  have hr : Rt z yX8_near (some .int) 0 0 _ := hr
  show V z 3 0 0 0 [(0, .ref (A 130)), (1, .int x), (2, .int v)] [] κ I R J
  have hk := hm.k
  have ho := hm.o
  obtain ⟨⟨h0, h0a, h0b⟩, ⟨h2, h3, h4⟩, ⟨h5, h6, h7⟩, ⟨⟨h8, h8a⟩, h9, h10⟩, h11, h12⟩ := id hs
  refine v_aload_n hz dX8_near_0 rfl ?_
  refine v_iload_n hz dX8_near_1 rfl ?_
  refine v_callVi hz lX8_120 (cX8_isKept_ok _ _ _ _ _ _ A hm kn x h2 h3) (by assumption) rfl rfl (Nat.le_of_ble_eq_true rfl) (by decide) ⟨Nat.zero_le _, Nat.zero_le _⟩ dX8_near_2 (fun r I2 hk2 => ?_)
  obtain ⟨rfl, eIhk2⟩ := hk2
  rw [eIhk2]
  first | with_reducible refine v_if_neB hz 12 dX8_near_5 (by decide) (fun c5 => ?_) (fun c5 => ?_) | with_reducible refine v_if_neN hz 12 (by omega) dX8_near_5 (by decide) (fun c5 => ?_) (fun c5 => ?_) | refine v_if_ne hz 12 dX8_near_5 (by decide) (fun c5 => ?_) (fun c5 => ?_)
  · obtain ⟨s, rfl, hsk⟩ := kpt_of (by omega) c5
    refine v_iload_n hz dX8_near_12 rfl ?_
    refine v_ic (v := nI 0) hz dX8_near_13 (by decide) ?_
    refine v_bi (v := nI 9) hz dX8_near_14 (by decide) ?_
    refine v_callSi hz lX8_75 (cX8_within_ok _ _ _ _ _ _ _ _ _) rfl rfl (Nat.le_of_ble_eq_true rfl) (by decide) ⟨Nat.zero_le _, Nat.zero_le _⟩ dX8_near_16 (fun r I1 h16 => ?_)
    obtain ⟨rfl, eIh16⟩ := h16
    rw [eIh16]
    refine v_top (wth (k := 10) (by omega) (by omega)) ?_
    first | with_reducible refine v_if_neB hz 26 dX8_near_19 (by decide) (fun c19 => ?_) (fun c19 => ?_) | with_reducible refine v_if_neN hz 26 (by omega) dX8_near_19 (by decide) (fun c19 => ?_) (fun c19 => ?_) | refine v_if_ne hz 26 dX8_near_19 (by decide) (fun c19 => ?_) (fun c19 => ?_)
    · obtain ⟨u, rfl, hu⟩ := kpt_of (by omega) c19
      refine v_aload_n hz dX8_near_26 rfl ?_
      refine v_getI hz fX8_126 (by assumption) dX8_near_27 ?_
      refine v_top h5 ?_
      first | with_reducible refine v_if_eqB hz 42 dX8_near_30 (by decide) (fun c30 => ?_) (fun c30 => ?_) | with_reducible refine v_if_eqN hz 42 (by omega) dX8_near_30 (by decide) (fun c30 => ?_) (fun c30 => ?_) | refine v_if_eq hz 42 dX8_near_30 (by decide) (fun c30 => ?_) (fun c30 => ?_)
      · refine v_si (v := (-1003)) hz dX8_near_42 (by decide) ?_
        exact v_iret hz hr dX8_near_45 (by first | exact ⟨by unfold nerR; rw [if_pos c5, if_pos c19, if_pos c30, nI_clamp (by omega), nI_clamp (by omega)]; exact h36.1, h36.2⟩ | exact ⟨by unfold nerR; rw [if_pos c5, if_pos c19, if_neg c30], QF.rf⟩)
      · refine v_aload_n hz dX8_near_33 rfl ?_
        refine v_iload_n hz dX8_near_34 rfl ?_
        refine v_iload_n hz dX8_near_35 rfl ?_
        refine v_callVi hz lX8_242 (cX8_nearNow_ok _ _ _ _ _ _ A hm s u w bd (ks s) T hu hs.2.2.2.1.1 h9 h10 (h4 s hsk).1 (h7 c30) (hv s hsk) (hvT c30)) (by assumption) rfl rfl (Nat.le_of_ble_eq_true rfl) (by decide) ⟨Nat.zero_le _, Nat.zero_le _⟩ dX8_near_36 (fun r I1 h36 => ?_)
        refine v_goto hz 45 dX8_near_39 (by decide) ?_
        exact v_iret hz hr dX8_near_45 (by first | exact ⟨by unfold nerR; rw [if_pos c5, if_pos c19, if_pos c30, nI_clamp (by omega), nI_clamp (by omega)]; exact h36.1, h36.2⟩ | exact ⟨by unfold nerR; rw [if_pos c5, if_pos c19, if_neg c30], QF.rf⟩)
    · refine v_si (v := (-1002)) hz dX8_near_22 (by decide) ?_
      exact v_iret hz hr dX8_near_25 ⟨by unfold nerR; rw [if_pos c5, if_neg c19], QF.rf⟩
  · refine v_si (v := (-1001)) hz dX8_near_8 (by decide) ?_
    exact v_iret hz hr dX8_near_11 ⟨(if_neg c5).symm, QF.rf⟩
set_option maxHeartbeats 4000000 in
set_option maxRecDepth 100000 in
theorem cX8_step_ok (l : Launch) (g : Gz) (κ : Kz) (I : Iz) (R : Rz) (J : Jz) (A : Nat → Nat) (hm : LM κ R A) (pg : Nat → Nat) (n kn : Nat) (ks : Nat → Sg) (tm : Nat → Int32) (T : Sg) (qa w bd : Nat) (te td : Int32) (hs : MS I A pg n kn ks tm T qa w bd te td) (hv : ∀ i, i < kn → okQ (ks i)) (hvT : 0 < qa → okQ T) (x y v : Int32) : Ct l mX8_step 0 0 g [.ref (A 130), .int x, .int y, .int v] κ I R J (Si κ R J (fun r I1 => r = stpR kn ks T qa w x y v ∧ QF A I I1)) := by
  refine ct_of (by decide) (Nat.le_of_ble_eq_true rfl) ?_
  intro z hz hr hrc hrs
  have hz : Am z cX8_step RX8 4 6 := hz
  have hr : Rt z yX8_step (some .int) 0 0 _ := hr
  show V z 4 0 0 0 [(0, .ref (A 130)), (1, .int x), (2, .int y), (3, .int v)] [] κ I R J
  have hk := hm.k
  have ho := hm.o
  have hR19 := hm.r19
  have hK19 := hm.k19
  have hN19 := hm.n19
  have hO19 := hm.o19
  have hR20 := hm.r20
  have hK20 := hm.k20
  have hN20 := hm.n20
  have hO20 := hm.o20
  have hR21 := hm.r21
  have hK21 := hm.k21
  have hN21 := hm.n21
  have hO21 := hm.o21
  have hR22 := hm.r22
  have hK22 := hm.k22
  have hN22 := hm.n22
  have hO22 := hm.o22
  obtain ⟨⟨h0, h0a, h0b⟩, ⟨h2, h3, h4⟩, ⟨h5, h6, h7⟩, ⟨⟨h8, h8a⟩, h9, h10⟩, h11, h12⟩ := id hs
  refine v_aload_n hz dX8_step_0 rfl ?_
  refine v_iload_n hz dX8_step_1 rfl ?_
  refine v_callVi hz lX8_120 (cX8_isKept_ok _ _ _ _ _ _ A hm kn x h2 h3) (by assumption) rfl rfl (Nat.le_of_ble_eq_true rfl) (by decide) ⟨Nat.zero_le _, Nat.zero_le _⟩ dX8_step_2 (fun r I2 hk2 => ?_)
  obtain ⟨rfl, eIhk2⟩ := hk2
  rw [eIhk2]
  first | with_reducible refine v_if_neB hz 12 dX8_step_5 (by decide) (fun c5 => ?_) (fun c5 => ?_) | with_reducible refine v_if_neN hz 12 (by omega) dX8_step_5 (by decide) (fun c5 => ?_) (fun c5 => ?_) | refine v_if_ne hz 12 dX8_step_5 (by decide) (fun c5 => ?_) (fun c5 => ?_)
  · obtain ⟨s, rfl, hsk⟩ := kpt_of (by omega) c5
    refine v_iload_n hz dX8_step_12 rfl ?_
    refine v_ic (v := nI 0) hz dX8_step_13 (by decide) ?_
    refine v_ic (v := nI 3) hz dX8_step_14 (by decide) ?_
    refine v_callSi hz lX8_75 (cX8_within_ok _ _ _ _ _ _ _ _ _) rfl rfl (Nat.le_of_ble_eq_true rfl) (by decide) ⟨Nat.zero_le _, Nat.zero_le _⟩ dX8_step_15 (fun r I1 h15 => ?_)
    obtain ⟨rfl, eIh15⟩ := h15
    rw [eIh15]
    refine v_top (wth (k := 4) (by omega) (by omega)) ?_
    first | with_reducible refine v_if_neB hz 25 dX8_step_18 (by decide) (fun c18 => ?_) (fun c18 => ?_) | with_reducible refine v_if_neN hz 25 (by omega) dX8_step_18 (by decide) (fun c18 => ?_) (fun c18 => ?_) | refine v_if_ne hz 25 dX8_step_18 (by decide) (fun c18 => ?_) (fun c18 => ?_)
    · obtain ⟨u, rfl, hu⟩ := kpt_of (by omega) c18
      refine v_aload_n hz dX8_step_25 rfl ?_
      refine v_getI hz fX8_126 (by assumption) dX8_step_26 ?_
      refine v_top h5 ?_
      first | with_reducible refine v_if_neB hz 36 dX8_step_29 (by decide) (fun c29 => ?_) (fun c29 => ?_) | with_reducible refine v_if_neN hz 36 (by omega) dX8_step_29 (by decide) (fun c29 => ?_) (fun c29 => ?_) | refine v_if_ne hz 36 dX8_step_29 (by decide) (fun c29 => ?_) (fun c29 => ?_)
      · refine v_aload_n hz dX8_step_36 rfl ?_
        refine v_iload_n hz dX8_step_37 rfl ?_
        refine v_bi (v := nI 12) hz dX8_step_38 (by decide) ?_
        refine v_callVv hz lX8_201 (cX8_laySteps_ok _ _ _ _ _ _ A hm w s 12 (ks s) T hs.2.2.2.1.1 (h4 s hsk).1 (h7 c29)) (by assumption) rfl rfl (Nat.le_of_ble_eq_true rfl) (by decide) ⟨Nat.zero_le _, Nat.zero_le _⟩ dX8_step_40 (fun I2 q40 => ?_)
        obtain ⟨hQS, K, hK⟩ := q40
        have hQ := hQS.qf
        have hK16 : K ≤ 16 := by have a1 := hK.2.1; have a2 := (h4 s hsk).1.2.1; have a3 := (h7 c29).2.1; omega
        have eK := nsf_eq hK.1
        refine v_iload_n hz dX8_step_43 rfl ?_
        refine v_ic (v := nI 0) hz dX8_step_44 (by decide) ?_
        refine v_aload_n hz dX8_step_45 rfl ?_
        refine v_getI hz fX8_154 (by assumption) dX8_step_46 ?_
        refine v_top hK.2.2.1 ?_
        refine v_ic (v := nI 1) hz dX8_step_49 (by decide) ?_
        refine v_isub hz dX8_step_50 ?_
        refine v_callSi hz lX8_75 (cX8_within_ok _ _ _ _ _ _ _ _ _) rfl rfl (Nat.le_of_ble_eq_true rfl) (by decide) ⟨Nat.zero_le _, Nat.zero_le _⟩ dX8_step_51 (fun r I3 q51 => ?_)
        obtain ⟨rfl, eIq51⟩ := q51
        rw [eIq51]
        refine v_top (kpt_w (by omega)) ?_
        first | with_reducible refine v_if_neB hz 61 dX8_step_54 (by decide) (fun c54 => ?_) (fun c54 => ?_) | with_reducible refine v_if_neN hz 61 (by omega) dX8_step_54 (by decide) (fun c54 => ?_) (fun c54 => ?_) | refine v_if_ne hz 61 dX8_step_54 (by decide) (fun c54 => ?_) (fun c54 => ?_)
        · obtain ⟨k, rfl, hkK⟩ := kpt_of (by omega) c54
          have hst := hK.2.2.2 k hkK
          have es : stpR kn ks T qa w (nI s) (nI k) (nI u) = stT w (ks s) T k u := by unfold stpR; rw [if_pos c5, if_pos c18, if_pos c29, nI_clamp (by omega), eK, if_pos c54, nI_clamp (by omega), nI_clamp (by omega)]
          refine v_iload_n hz dX8_step_61 rfl ?_
          first | with_reducible refine v_if_neB hz 74 dX8_step_62 (by decide) (fun c62 => ?_) (fun c62 => ?_) | with_reducible refine v_if_neN hz 74 (by omega) dX8_step_62 (by decide) (fun c62 => ?_) (fun c62 => ?_) | refine v_if_ne hz 74 dX8_step_62 (by decide) (fun c62 => ?_) (fun c62 => ?_)
          · refine v_iload_n hz dX8_step_74 rfl ?_
            refine v_ic (v := nI 1) hz dX8_step_75 (by decide) ?_
            first | with_reducible refine v_icmp_neN hz 88 (by omega) (by omega) dX8_step_76 (by decide) (fun c76 => ?_) (fun c76 => ?_) | refine v_icmp_ne hz 88 dX8_step_76 (by decide) (fun c76 => ?_) (fun c76 => ?_)
            · refine v_iload_n hz dX8_step_88 rfl ?_
              refine v_ic (v := nI 2) hz dX8_step_89 (by decide) ?_
              first | with_reducible refine v_icmp_neN hz 102 (by omega) (by omega) dX8_step_90 (by decide) (fun c90 => ?_) (fun c90 => ?_) | refine v_icmp_ne hz 102 dX8_step_90 (by decide) (fun c90 => ?_) (fun c90 => ?_)
              · refine v_aload_n hz dX8_step_102 rfl ?_
                refine v_getR hz fX8_53 (by assumption) (by assumption) dX8_step_103 ?_
                refine v_iload_n hz dX8_step_106 rfl ?_
                refine v_ialdN hz (by assumption) (by assumption) (by omega) (by decide) dX8_step_107 ?_
                exact v_iret hz hr dX8_step_108 (by first | exact ⟨by rw [es]; unfold stT; rw [if_pos (by omega)]; exact hst.1, hQ⟩ | exact ⟨by rw [es]; unfold stT; rw [if_neg (by omega), if_pos (by omega)]; exact hst.2.1, hQ⟩ | exact ⟨by rw [es]; unfold stT; rw [if_neg (by omega), if_neg (by omega), if_pos (by omega)]; exact hst.2.2.1, hQ⟩ | exact ⟨by rw [es]; unfold stT; rw [if_neg (by omega), if_neg (by omega), if_neg (by omega)]; exact hst.2.2.2, hQ⟩)
              · refine v_aload_n hz dX8_step_93 rfl ?_
                refine v_getR hz fX8_50 (by assumption) (by assumption) dX8_step_94 ?_
                refine v_iload_n hz dX8_step_97 rfl ?_
                refine v_ialdN hz (by assumption) (by assumption) (by omega) (by decide) dX8_step_98 ?_
                refine v_goto hz 108 dX8_step_99 (by decide) ?_
                exact v_iret hz hr dX8_step_108 (by first | exact ⟨by rw [es]; unfold stT; rw [if_pos (by omega)]; exact hst.1, hQ⟩ | exact ⟨by rw [es]; unfold stT; rw [if_neg (by omega), if_pos (by omega)]; exact hst.2.1, hQ⟩ | exact ⟨by rw [es]; unfold stT; rw [if_neg (by omega), if_neg (by omega), if_pos (by omega)]; exact hst.2.2.1, hQ⟩ | exact ⟨by rw [es]; unfold stT; rw [if_neg (by omega), if_neg (by omega), if_neg (by omega)]; exact hst.2.2.2, hQ⟩)
            · refine v_aload_n hz dX8_step_79 rfl ?_
              refine v_getR hz fX8_47 (by assumption) (by assumption) dX8_step_80 ?_
              refine v_iload_n hz dX8_step_83 rfl ?_
              refine v_ialdN hz (by assumption) (by assumption) (by omega) (by decide) dX8_step_84 ?_
              refine v_goto hz 108 dX8_step_85 (by decide) ?_
              exact v_iret hz hr dX8_step_108 (by first | exact ⟨by rw [es]; unfold stT; rw [if_pos (by omega)]; exact hst.1, hQ⟩ | exact ⟨by rw [es]; unfold stT; rw [if_neg (by omega), if_pos (by omega)]; exact hst.2.1, hQ⟩ | exact ⟨by rw [es]; unfold stT; rw [if_neg (by omega), if_neg (by omega), if_pos (by omega)]; exact hst.2.2.1, hQ⟩ | exact ⟨by rw [es]; unfold stT; rw [if_neg (by omega), if_neg (by omega), if_neg (by omega)]; exact hst.2.2.2, hQ⟩)
          · refine v_aload_n hz dX8_step_65 rfl ?_
            refine v_getR hz fX8_44 (by assumption) (by assumption) dX8_step_66 ?_
            refine v_iload_n hz dX8_step_69 rfl ?_
            refine v_ialdN hz (by assumption) (by assumption) (by omega) (by decide) dX8_step_70 ?_
            refine v_goto hz 108 dX8_step_71 (by decide) ?_
            exact v_iret hz hr dX8_step_108 (by first | exact ⟨by rw [es]; unfold stT; rw [if_pos (by omega)]; exact hst.1, hQ⟩ | exact ⟨by rw [es]; unfold stT; rw [if_neg (by omega), if_pos (by omega)]; exact hst.2.1, hQ⟩ | exact ⟨by rw [es]; unfold stT; rw [if_neg (by omega), if_neg (by omega), if_pos (by omega)]; exact hst.2.2.1, hQ⟩ | exact ⟨by rw [es]; unfold stT; rw [if_neg (by omega), if_neg (by omega), if_neg (by omega)]; exact hst.2.2.2, hQ⟩)
        · refine v_si (v := (-1001)) hz dX8_step_57 (by decide) ?_
          exact v_iret hz hr dX8_step_60 ⟨by unfold stpR; rw [if_pos c5, if_pos c18, if_pos c29, nI_clamp (by omega), eK, if_neg c54], hQ⟩
      · refine v_si (v := (-1003)) hz dX8_step_32 (by decide) ?_
        exact v_iret hz hr dX8_step_35 ⟨by unfold stpR; rw [if_pos c5, if_pos c18, if_neg c29], QF.rf⟩
    · refine v_si (v := (-1002)) hz dX8_step_21 (by decide) ?_
      exact v_iret hz hr dX8_step_24 ⟨by unfold stpR; rw [if_pos c5, if_neg c18], QF.rf⟩
  · refine v_si (v := (-1001)) hz dX8_step_8 (by decide) ?_
    exact v_iret hz hr dX8_step_11 ⟨(if_neg c5).symm, QF.rf⟩
set_option maxHeartbeats 4000000 in
set_option maxRecDepth 100000 in
theorem cX8_isAhead_ok (l : Launch) (g : Gz) (κ : Kz) (I : Iz) (R : Rz) (J : Jz) (A : Nat → Nat) (hm : LM κ R A) (a b s1 s2 t1 t2 : Nat) (ha : a < 12) (hb : b < 12) (z1 : s1 ≤ 1000) (z2 : s2 ≤ 1000) (y1 : t1 ≤ 16) (y2 : t2 ≤ 16) (e1 : I (A 156) a = nI s1) (e2 : I (A 156) b = nI s2) (f1 : I (A 157) a = nI t1) (f2 : I (A 157) b = nI t2) : Ct l mX8_isAhead 0 0 g [.ref (A 130), .int (nI a), .int (nI b)] κ I R J (Si κ R J (fun r I1 => r = rkI s1 t1 s2 t2 ∧ I1 = I)) := by
  refine ct_of (by decide) (Nat.le_of_ble_eq_true rfl) ?_
  intro z hz hr hrc hrs
  have hz : Am z cX8_isAhead RX8 3 0 := hz
  have hr : Rt z yX8_isAhead (some .boolean) 0 0 _ := hr
  show V z 3 0 0 0 [(0, .ref (A 130)), (1, .int (nI a)), (2, .int (nI b))] [] κ I R J
  have hk := hm.k
  have ho := hm.o
  have hR26 := hm.r26
  have hK26 := hm.k26
  have hN26 := hm.n26
  have hO26 := hm.o26
  have hR27 := hm.r27
  have hK27 := hm.k27
  have hN27 := hm.n27
  have hO27 := hm.o27
  refine v_aload_n hz dX8_isAhead_0 rfl ?_
  refine v_getR hz fX8_62 (by assumption) (by assumption) dX8_isAhead_1 ?_
  refine v_iload_n hz dX8_isAhead_4 rfl ?_
  refine v_ialdN hz (by assumption) (by assumption) (by omega) (by decide) dX8_isAhead_5 ?_
  refine v_top e1 ?_
  refine v_aload_n hz dX8_isAhead_6 rfl ?_
  refine v_getR hz fX8_62 (by assumption) (by assumption) dX8_isAhead_7 ?_
  refine v_iload_n hz dX8_isAhead_10 rfl ?_
  refine v_ialdN hz (by assumption) (by assumption) (by omega) (by decide) dX8_isAhead_11 ?_
  refine v_top e2 ?_
  first | with_reducible refine v_icmp_eqN hz 36 (by omega) (by omega) dX8_isAhead_12 (by decide) (fun c12 => ?_) (fun c12 => ?_) | refine v_icmp_eq hz 36 dX8_isAhead_12 (by decide) (fun c12 => ?_) (fun c12 => ?_)
  · refine v_aload_n hz dX8_isAhead_36 rfl ?_
    refine v_getR hz fX8_65 (by assumption) (by assumption) dX8_isAhead_37 ?_
    refine v_iload_n hz dX8_isAhead_40 rfl ?_
    refine v_ialdN hz (by assumption) (by assumption) (by omega) (by decide) dX8_isAhead_41 ?_
    refine v_top f1 ?_
    refine v_aload_n hz dX8_isAhead_42 rfl ?_
    refine v_getR hz fX8_65 (by assumption) (by assumption) dX8_isAhead_43 ?_
    refine v_iload_n hz dX8_isAhead_46 rfl ?_
    refine v_ialdN hz (by assumption) (by assumption) (by omega) (by decide) dX8_isAhead_47 ?_
    refine v_top f2 ?_
    first | with_reducible refine v_icmp_geN hz 55 (by omega) (by omega) dX8_isAhead_48 (by decide) (fun c48 => ?_) (fun c48 => ?_) | refine v_icmp_ge hz 55 dX8_isAhead_48 (by decide) (fun c48 => ?_) (fun c48 => ?_)
    · refine v_ic (v := nI 0) hz dX8_isAhead_55 (by decide) ?_
      exact v_zret hz hr dX8_isAhead_56 (by first | exact Or.inl rfl | exact Or.inr rfl) (by first | exact ⟨(bz_t (by omega)).symm, rfl⟩ | exact ⟨(bz_f (by omega)).symm, rfl⟩)
    · refine v_ic (v := nI 1) hz dX8_isAhead_51 (by decide) ?_
      refine v_goto hz 56 dX8_isAhead_52 (by decide) ?_
      exact v_zret hz hr dX8_isAhead_56 (by first | exact Or.inl rfl | exact Or.inr rfl) (by first | exact ⟨(bz_t (by omega)).symm, rfl⟩ | exact ⟨(bz_f (by omega)).symm, rfl⟩)
  · refine v_aload_n hz dX8_isAhead_15 rfl ?_
    refine v_getR hz fX8_62 (by assumption) (by assumption) dX8_isAhead_16 ?_
    refine v_iload_n hz dX8_isAhead_19 rfl ?_
    refine v_ialdN hz (by assumption) (by assumption) (by omega) (by decide) dX8_isAhead_20 ?_
    refine v_top e1 ?_
    refine v_aload_n hz dX8_isAhead_21 rfl ?_
    refine v_getR hz fX8_62 (by assumption) (by assumption) dX8_isAhead_22 ?_
    refine v_iload_n hz dX8_isAhead_25 rfl ?_
    refine v_ialdN hz (by assumption) (by assumption) (by omega) (by decide) dX8_isAhead_26 ?_
    refine v_top e2 ?_
    first | with_reducible refine v_icmp_leN hz 34 (by omega) (by omega) dX8_isAhead_27 (by decide) (fun c27 => ?_) (fun c27 => ?_) | refine v_icmp_le hz 34 dX8_isAhead_27 (by decide) (fun c27 => ?_) (fun c27 => ?_)
    · refine v_ic (v := nI 0) hz dX8_isAhead_34 (by decide) ?_
      exact v_zret hz hr dX8_isAhead_35 (by first | exact Or.inl rfl | exact Or.inr rfl) (by first | exact ⟨(bz_t (by omega)).symm, rfl⟩ | exact ⟨(bz_f (by omega)).symm, rfl⟩)
    · refine v_ic (v := nI 1) hz dX8_isAhead_30 (by decide) ?_
      refine v_goto hz 35 dX8_isAhead_31 (by decide) ?_
      exact v_zret hz hr dX8_isAhead_35 (by first | exact Or.inl rfl | exact Or.inr rfl) (by first | exact ⟨(bz_t (by omega)).symm, rfl⟩ | exact ⟨(bz_f (by omega)).symm, rfl⟩)
