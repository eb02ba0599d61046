set_option maxHeartbeats 4000000 in
set_option maxRecDepth 100000 in
theorem cX8_gramAt_ok (l : Launch) (g : Gz) (κ : Kz) (I : Iz) (R : Rz) (J : Jz) (A : Nat → Nat) (hm : LM κ R A) (q L k : Nat) (T : Nat → Nat) (h1 : msn I A q L T) (hl : ltr L T) (hL : 0 < L) (hkL : k ≤ L) : Ct l mX8_gramAt 0 0 g [.ref (A 130), .int (nI q), .int (nI k)] κ I R J (Si κ R J (fun r I1 => r = nI (mcode (gp L T k)) ∧ I1 = I)) := by
  refine ct_of (by decide) (Nat.le_of_ble_eq_true rfl) ?_
  intro z hz hr hrc hrs
  have hz : Am z cX8_gramAt RX8 5 1 := hz
  have hr : Rt z yX8_gramAt (some .int) 0 0 _ := hr
  show V z 5 0 0 0 [(0, .ref (A 130)), (1, .int (nI q)), (2, .int (nI k))] [] κ I R J
  have hk := hm.k
  have ho := hm.o
  have hR6 := hm.r6
  have hK6 := hm.k6
  have hN6 := hm.n6
  have hO6 := hm.o6
  have hR8 := hm.r8
  have hK8 := hm.k8
  have hN8 := hm.n8
  have hO8 := hm.o8
  have hq := h1.1
  have hL2 := h1.2.1
  refine v_iload_n hz dX8_gramAt_0 rfl ?_
  first | with_reducible refine v_if_neB hz 8 dX8_gramAt_1 (by decide) (fun c1 => ?_) (fun c1 => ?_) | with_reducible refine v_if_neN hz 8 (by omega) dX8_gramAt_1 (by decide) (fun c1 => ?_) (fun c1 => ?_) | refine v_if_ne hz 8 dX8_gramAt_1 (by decide) (fun c1 => ?_) (fun c1 => ?_)
  · refine v_aload_n hz dX8_gramAt_8 rfl ?_
    refine v_getR hz fX8_25 (by assumption) (by assumption) dX8_gramAt_9 ?_
    refine v_bi (v := nI 12) hz dX8_gramAt_12 (by decide) ?_
    refine v_iload_n hz dX8_gramAt_14 rfl ?_
    first | with_reducible refine v_imulN hz dX8_gramAt_15 ?_ | refine v_imul hz dX8_gramAt_15 ?_
    refine v_iload_n hz dX8_gramAt_16 rfl ?_
    first | with_reducible refine v_iaddN hz dX8_gramAt_17 ?_ | refine v_iadd hz dX8_gramAt_17 ?_
    refine v_ic (v := nI 1) hz dX8_gramAt_18 (by decide) ?_
    refine v_isubN hz (by omega) dX8_gramAt_19 ?_
    refine v_ialdN hz (by assumption) (by assumption) (by omega) (by decide) dX8_gramAt_20 ?_
    refine v_top (y := nI (T (k - 1))) (by rw [show 12 * q + k - 1 = 12 * q + (k - 1) by omega]; exact (h1.2.2.2 (k - 1) (by omega)).1) ?_
    refine v_callSi hz lX8_173 (cX8_gramSign_ok _ _ _ _ _ _ _) rfl rfl (Nat.le_of_ble_eq_true rfl) (by decide) ⟨Nat.zero_le _, Nat.zero_le _⟩ dX8_gramAt_21 (fun r I1 h21 => ?_)
    obtain ⟨rfl, rfl⟩ := h21
    refine v_top (gs_letter (hl (k - 1) (by omega)).1 (hl (k - 1) (by omega)).2) ?_
    refine v_istore_n hz dX8_gramAt_24 (by decide) rfl ?_
    refine v_iload_n hz dX8_gramAt_25 rfl ?_
    refine v_aload_n hz dX8_gramAt_26 rfl ?_
    refine v_getR hz fX8_19 (by assumption) (by assumption) dX8_gramAt_27 ?_
    refine v_iload_n hz dX8_gramAt_30 rfl ?_
    refine v_ialdN hz (by assumption) (by assumption) (by omega) (by decide) dX8_gramAt_31 ?_
    refine v_top h1.2.2.1 ?_
    first | with_reducible refine v_icmp_neN hz 40 (by omega) (by omega) dX8_gramAt_32 (by decide) (fun c32 => ?_) (fun c32 => ?_) | refine v_icmp_ne hz 40 dX8_gramAt_32 (by decide) (fun c32 => ?_) (fun c32 => ?_)
    · first
      | (exfalso; omega)
      | (refine v_aload_n hz dX8_gramAt_40 rfl ?_
         refine v_getR hz fX8_25 (by assumption) (by assumption) dX8_gramAt_41 ?_
         refine v_bi (v := nI 12) hz dX8_gramAt_44 (by decide) ?_
         refine v_iload_n hz dX8_gramAt_46 rfl ?_
         first | with_reducible refine v_imulN hz dX8_gramAt_47 ?_ | refine v_imul hz dX8_gramAt_47 ?_
         refine v_iload_n hz dX8_gramAt_48 rfl ?_
         first | with_reducible refine v_iaddN hz dX8_gramAt_49 ?_ | refine v_iadd hz dX8_gramAt_49 ?_
         refine v_ialdN hz (by assumption) (by assumption) (by omega) (by decide) dX8_gramAt_50 ?_
         refine v_top (h1.2.2.2 k (by omega)).1 ?_
         refine v_callSi hz lX8_173 (cX8_gramSign_ok _ _ _ _ _ _ _) rfl rfl (Nat.le_of_ble_eq_true rfl) (by decide) ⟨Nat.zero_le _, Nat.zero_le _⟩ dX8_gramAt_51 (fun r I1 h51 => ?_)
         obtain ⟨rfl, rfl⟩ := h51
         refine v_top (gs_letter (hl k (by omega)).1 (hl k (by omega)).2) ?_
         have x1 := hl k (by omega)
         refine v_istore hz dX8_gramAt_54 (by decide) rfl ?_
         refine v_bi (v := nI 28) hz dX8_gramAt_56 (by decide) ?_
         refine v_iload_n hz dX8_gramAt_58 rfl ?_
         first | with_reducible refine v_imulN hz dX8_gramAt_59 ?_ | refine v_imul hz dX8_gramAt_59 ?_
         refine v_iload hz dX8_gramAt_60 rfl ?_
         first | with_reducible refine v_iaddN hz dX8_gramAt_62 ?_ | refine v_iadd hz dX8_gramAt_62 ?_
         exact v_iret hz hr dX8_gramAt_63 ⟨by
               unfold mcode gp
               dsimp only
               first
               | rw [if_neg (show ¬ k = 0 by omega), if_neg (show ¬ k = L by omega), if_neg (by omega)]
               | rw [if_neg (show ¬ k = 0 by omega), if_pos (show k = L by omega), if_pos rfl]
               | rw [if_pos (show k = 0 by omega), if_neg (show ¬ k = L by omega), if_neg (by omega)], rfl⟩)
    · first
      | (exfalso; omega)
      | (refine v_bi (v := nI 27) hz dX8_gramAt_35 (by decide) ?_
         refine v_goto hz 54 dX8_gramAt_37 (by decide) ?_
         refine v_istore hz dX8_gramAt_54 (by decide) rfl ?_
         refine v_bi (v := nI 28) hz dX8_gramAt_56 (by decide) ?_
         refine v_iload_n hz dX8_gramAt_58 rfl ?_
         first | with_reducible refine v_imulN hz dX8_gramAt_59 ?_ | refine v_imul hz dX8_gramAt_59 ?_
         refine v_iload hz dX8_gramAt_60 rfl ?_
         first | with_reducible refine v_iaddN hz dX8_gramAt_62 ?_ | refine v_iadd hz dX8_gramAt_62 ?_
         exact v_iret hz hr dX8_gramAt_63 ⟨by
               unfold mcode gp
               dsimp only
               first
               | rw [if_neg (show ¬ k = 0 by omega), if_neg (show ¬ k = L by omega), if_neg (by omega)]
               | rw [if_neg (show ¬ k = 0 by omega), if_pos (show k = L by omega), if_pos rfl]
               | rw [if_pos (show k = 0 by omega), if_neg (show ¬ k = L by omega), if_neg (by omega)], rfl⟩)
  · refine v_ic (v := nI 0) hz dX8_gramAt_4 (by decide) ?_
    refine v_goto hz 24 dX8_gramAt_5 (by decide) ?_
    refine v_istore_n hz dX8_gramAt_24 (by decide) rfl ?_
    refine v_iload_n hz dX8_gramAt_25 rfl ?_
    refine v_aload_n hz dX8_gramAt_26 rfl ?_
    refine v_getR hz fX8_19 (by assumption) (by assumption) dX8_gramAt_27 ?_
    refine v_iload_n hz dX8_gramAt_30 rfl ?_
    refine v_ialdN hz (by assumption) (by assumption) (by omega) (by decide) dX8_gramAt_31 ?_
    refine v_top h1.2.2.1 ?_
    first | with_reducible refine v_icmp_neN hz 40 (by omega) (by omega) dX8_gramAt_32 (by decide) (fun c32 => ?_) (fun c32 => ?_) | refine v_icmp_ne hz 40 dX8_gramAt_32 (by decide) (fun c32 => ?_) (fun c32 => ?_)
    · first
      | (exfalso; omega)
      | (refine v_aload_n hz dX8_gramAt_40 rfl ?_
         refine v_getR hz fX8_25 (by assumption) (by assumption) dX8_gramAt_41 ?_
         refine v_bi (v := nI 12) hz dX8_gramAt_44 (by decide) ?_
         refine v_iload_n hz dX8_gramAt_46 rfl ?_
         first | with_reducible refine v_imulN hz dX8_gramAt_47 ?_ | refine v_imul hz dX8_gramAt_47 ?_
         refine v_iload_n hz dX8_gramAt_48 rfl ?_
         first | with_reducible refine v_iaddN hz dX8_gramAt_49 ?_ | refine v_iadd hz dX8_gramAt_49 ?_
         refine v_ialdN hz (by assumption) (by assumption) (by omega) (by decide) dX8_gramAt_50 ?_
         refine v_top (h1.2.2.2 k (by omega)).1 ?_
         refine v_callSi hz lX8_173 (cX8_gramSign_ok _ _ _ _ _ _ _) rfl rfl (Nat.le_of_ble_eq_true rfl) (by decide) ⟨Nat.zero_le _, Nat.zero_le _⟩ dX8_gramAt_51 (fun r I1 h51 => ?_)
         obtain ⟨rfl, rfl⟩ := h51
         refine v_top (gs_letter (hl k (by omega)).1 (hl k (by omega)).2) ?_
         have x1 := hl k (by omega)
         refine v_istore hz dX8_gramAt_54 (by decide) rfl ?_
         refine v_bi (v := nI 28) hz dX8_gramAt_56 (by decide) ?_
         refine v_iload_n hz dX8_gramAt_58 rfl ?_
         first | with_reducible refine v_imulN hz dX8_gramAt_59 ?_ | refine v_imul hz dX8_gramAt_59 ?_
         refine v_iload hz dX8_gramAt_60 rfl ?_
         first | with_reducible refine v_iaddN hz dX8_gramAt_62 ?_ | refine v_iadd hz dX8_gramAt_62 ?_
         exact v_iret hz hr dX8_gramAt_63 ⟨by
               unfold mcode gp
               dsimp only
               first
               | rw [if_neg (show ¬ k = 0 by omega), if_neg (show ¬ k = L by omega), if_neg (by omega)]
               | rw [if_neg (show ¬ k = 0 by omega), if_pos (show k = L by omega), if_pos rfl]
               | rw [if_pos (show k = 0 by omega), if_neg (show ¬ k = L by omega), if_neg (by omega)], rfl⟩)
    · first
      | (exfalso; omega)
      | (refine v_bi (v := nI 27) hz dX8_gramAt_35 (by decide) ?_
         refine v_goto hz 54 dX8_gramAt_37 (by decide) ?_
         refine v_istore hz dX8_gramAt_54 (by decide) rfl ?_
         refine v_bi (v := nI 28) hz dX8_gramAt_56 (by decide) ?_
         refine v_iload_n hz dX8_gramAt_58 rfl ?_
         first | with_reducible refine v_imulN hz dX8_gramAt_59 ?_ | refine v_imul hz dX8_gramAt_59 ?_
         refine v_iload hz dX8_gramAt_60 rfl ?_
         first | with_reducible refine v_iaddN hz dX8_gramAt_62 ?_ | refine v_iadd hz dX8_gramAt_62 ?_
         exact v_iret hz hr dX8_gramAt_63 ⟨by
               unfold mcode gp
               dsimp only
               first
               | rw [if_neg (show ¬ k = 0 by omega), if_neg (show ¬ k = L by omega), if_neg (by omega)]
               | rw [if_neg (show ¬ k = 0 by omega), if_pos (show k = L by omega), if_pos rfl]
               | rw [if_pos (show k = 0 by omega), if_neg (show ¬ k = L by omega), if_neg (by omega)], rfl⟩)
set_option maxHeartbeats 4000000 in
set_option maxRecDepth 100000 in
theorem lp_layGrams_0 {z : Zz} {κ : Kz} {R : Rz} {J : Jz} {A : Nat → Nat} {I0 : Iz} (hm : LM κ R A) (hz : Am z cX8_layGrams RX8 4 2) {s : Nat} (K : ∀ I1, Fm [153] A I0 I1 → (∀ c, c < 784 → I1 (A 153) c = 0) → V z 4 0 0 22 [(0, .ref (A 130)), (1, .int (nI s))] [] κ I1 R J) :
    ∀ (n k : Nat) (I : Iz), k ≤ 784 → 785 ≤ k + n → Fm [153] A I0 I → (∀ c, c < k → I (A 153) c = 0) → V z 4 0 0 2 [(0, .ref (A 130)), (1, .int (nI s)), (2, .int (nI k))] [] κ I R J := by
  have hk := hm.k
  have ho := hm.o
  have hR4 := hm.r4
  have hK4 := hm.k4
  have hN4 := hm.n4
  have hO4 := hm.o4
  have hR6 := hm.r6
  have hK6 := hm.k6
  have hN6 := hm.n6
  have hO6 := hm.o6
  have hR23 := hm.r23
  have hK23 := hm.k23
  have hN23 := hm.n23
  have hO23 := hm.o23
  intro n
  induction n with
  | zero => intro k I hk9 hn; exact absurd hn (by omega)
  | succ n ih =>
  intro k I hk9 hn hC hF
  refine v_iload_n hz dX8_layGrams_2 rfl ?_
  refine v_si (v := nI 784) hz dX8_layGrams_3 (by decide) ?_
  first | with_reducible refine v_icmp_geN hz 22 (by omega) (by omega) dX8_layGrams_6 (by decide) (fun c6 => ?_) (fun c6 => ?_) | refine v_icmp_ge hz 22 dX8_layGrams_6 (by decide) (fun c6 => ?_) (fun c6 => ?_)
  · exact v_sub (K I hC (fun c hc => hF c (by omega))) ⟨rfl, rfl, trivial⟩
  · refine v_aload_n hz dX8_layGrams_9 rfl ?_
    refine v_getR hz fX8_56 (by assumption) (by assumption) dX8_layGrams_10 ?_
    refine v_iload_n hz dX8_layGrams_13 rfl ?_
    refine v_ic (v := nI 0) hz dX8_layGrams_14 (by decide) ?_
    refine v_iastN hz (by assumption) (by assumption) (by omega) (by decide) dX8_layGrams_15 ?_
    first | refine v_iincN hz 1 dX8_layGrams_16 (by decide) rfl (by decide) rfl ?_ | refine v_iinc hz dX8_layGrams_16 rfl (by decide) rfl ?_
    refine v_goto hz 2 dX8_layGrams_19 (by decide) ?_
    exact v_sub (ih (k + 1) _ (by omega) (by omega) (hC.put (by decide)) (fun c hc => by
          by_cases e : c = k
          · subst e; rw [u2_eq]; rfl
          · rw [u2_at e]; exact hF c (by omega))) ⟨rfl, rfl, rfl, trivial⟩
set_option maxHeartbeats 4000000 in
set_option maxRecDepth 100000 in
theorem lp_layGrams_2 {z : Zz} {κ : Kz} {R : Rz} {J : Jz} {A : Nat → Nat} {I0 : Iz} (hm : LM κ R A) (hz : Am z cX8_layGrams RX8 4 2) {s : Nat} {S : Sg} (h1 : msg I0 A s S) (hok : okS S) (i : Nat) (hi : i < S.1) (K : ∀ I1, Fm [153] A I0 I1 → mgr I1 A (fun c => gcs mcode S c (i + 1)) → V z 4 0 0 83 [(0, .ref (A 130)), (1, .int (nI s)), (2, .int (nI (8 * s + i)))] [] κ I1 R J) :
    ∀ (n k : Nat) (I : Iz), k ≤ S.2.1 i + 1 → S.2.1 i + 2 ≤ k + n → (0 < S.2.1 i ∨ k = 0) → Fm [153] A I0 I → mgr I A (gck S i k) → V z 4 0 0 44 [(0, .ref (A 130)), (1, .int (nI s)), (2, .int (nI (8 * s + i))), (3, .int (nI k))] [] κ I R J := by
  have hk := hm.k
  have ho := hm.o
  have hR4 := hm.r4
  have hK4 := hm.k4
  have hN4 := hm.n4
  have hO4 := hm.o4
  have hR6 := hm.r6
  have hK6 := hm.k6
  have hN6 := hm.n6
  have hO6 := hm.o6
  have hR23 := hm.r23
  have hK23 := hm.k23
  have hN23 := hm.n23
  have hO23 := hm.o23
  have hs := h1.1
  have hS := h1.2.1
  have hl := (hok.2.2 i hi).2.2
  have hL := (hok.2.2 i hi).1
  intro n
  induction n with
  | zero => intro k I hk9 hn; exact absurd hn (by omega)
  | succ n ih =>
  intro k I hk9 hn hor hC hF
  have e6 : I (A 136) = I0 (A 136) := hm.fm hC 6 (by decide) (by decide)
  have e8 : I (A 138) = I0 (A 138) := hm.fm hC 8 (by decide) (by decide)
  have g1 : msn I A (8 * s + i) (S.2.1 i) (S.2.2.2 i) := (h1.2.2.2 i hi).1.keep e6 e8
  refine v_iload_n hz dX8_layGrams_44 rfl ?_
  refine v_aload_n hz dX8_layGrams_45 rfl ?_
  refine v_getR hz fX8_19 (by assumption) (by assumption) dX8_layGrams_46 ?_
  refine v_iload_n hz dX8_layGrams_49 rfl ?_
  refine v_ialdN hz (by assumption) (by assumption) (by omega) (by decide) dX8_layGrams_50 ?_
  refine v_top g1.2.2.1 ?_
  first | with_reducible refine v_icmp_gtN hz 83 (by omega) (by omega) dX8_layGrams_51 (by decide) (fun c51 => ?_) (fun c51 => ?_) | refine v_icmp_gt hz 83 dX8_layGrams_51 (by decide) (fun c51 => ?_) (fun c51 => ?_)
  · exact v_sub (K _ hC (hF.to (fun c => gck_e S i k c (by omega)))) ⟨rfl, rfl, rfl, trivial⟩
  · refine v_aload_n hz dX8_layGrams_54 rfl ?_
    refine v_iload_n hz dX8_layGrams_55 rfl ?_
    refine v_callVi hz lX8_140 (cX8_isWord_ok _ _ _ _ _ _ A hm (8 * s + i) _ (by omega) g1.2.1 g1.2.2.1) (by assumption) rfl rfl (Nat.le_of_ble_eq_true rfl) (by decide) ⟨Nat.zero_le _, Nat.zero_le _⟩ dX8_layGrams_56 (fun r I1 h56 => ?_)
    obtain ⟨rfl, rfl⟩ := h56
    first | with_reducible refine v_if_eqB hz 83 dX8_layGrams_59 (by decide) (fun c59 => ?_) (fun c59 => ?_) | with_reducible refine v_if_eqN hz 83 (by omega) dX8_layGrams_59 (by decide) (fun c59 => ?_) (fun c59 => ?_) | refine v_if_eq hz 83 dX8_layGrams_59 (by decide) (fun c59 => ?_) (fun c59 => ?_)
    · exact v_sub (K _ hC (hF.to (fun c => gck_e S i k c (by omega)))) ⟨rfl, rfl, rfl, trivial⟩
    · refine v_aload_n hz dX8_layGrams_62 rfl ?_
      refine v_getR hz fX8_56 (by assumption) (by assumption) dX8_layGrams_63 ?_
      refine v_aload_n hz dX8_layGrams_66 rfl ?_
      refine v_iload_n hz dX8_layGrams_67 rfl ?_
      refine v_iload_n hz dX8_layGrams_68 rfl ?_
      refine v_callVi hz lX8_176 (cX8_gramAt_ok _ _ _ _ _ _ A hm (8 * s + i) _ k _ g1 hl c59 (by omega)) (by assumption) rfl rfl (Nat.le_of_ble_eq_true rfl) (by decide) ⟨Nat.zero_le _, Nat.zero_le _⟩ dX8_layGrams_69 (fun r I1 h69 => ?_)
      obtain ⟨rfl, rfl⟩ := h69
      have hmc := mcode_lt hl (show k ≤ S.2.1 i by omega)
      refine v_dup2 hz dX8_layGrams_72 rfl rfl ?_
      refine v_ialdN hz (by assumption) (by assumption) hmc (by decide) dX8_layGrams_73 ?_
      refine v_top (hF _ hmc) ?_
      refine v_ic (v := nI 1) hz dX8_layGrams_74 (by decide) ?_
      first | with_reducible refine v_iaddN hz dX8_layGrams_75 ?_ | refine v_iadd hz dX8_layGrams_75 ?_
      refine v_iastN hz (by assumption) (by assumption) hmc (by decide) dX8_layGrams_76 ?_
      first | refine v_iincN hz 1 dX8_layGrams_77 (by decide) rfl (by decide) rfl ?_ | refine v_iinc hz dX8_layGrams_77 rfl (by decide) rfl ?_
      refine v_goto hz 44 dX8_layGrams_80 (by decide) ?_
      exact v_sub (ih (k + 1) _ (by omega) (by omega) (Or.inl c59) (hC.put (by decide)) (hF.put (g := gck S i (k + 1)) (fun c hc => by rw [gck_s S i k c c59, if_neg (Ne.symm hc)]; rfl) (by rw [gck_s S i k _ c59, if_pos rfl]))) ⟨rfl, rfl, rfl, rfl, trivial⟩
set_option maxHeartbeats 4000000 in
set_option maxRecDepth 100000 in
theorem lp_layGrams_1 {z : Zz} {κ : Kz} {R : Rz} {J : Jz} {A : Nat → Nat} {I0 : Iz} (hm : LM κ R A) (hz : Am z cX8_layGrams RX8 4 2) {s : Nat} {S : Sg} (h1 : msg I0 A s S) (hok : okS S) (hr : Rt z yX8_layGrams none 0 0 (Sv κ R J (fun I1 => Fm [153] A I0 I1 ∧ mgr I1 A (gct mcode S)))) :
    ∀ (n i : Nat) (I : Iz), i ≤ S.1 → S.1 + 1 ≤ i + n → Fm [153] A I0 I → mgr I A (fun c => gcs mcode S c i) → V z 4 0 0 27 [(0, .ref (A 130)), (1, .int (nI s)), (2, .int (nI (8 * s + i)))] [] κ I R J := by
  have hk := hm.k
  have ho := hm.o
  have hR4 := hm.r4
  have hK4 := hm.k4
  have hN4 := hm.n4
  have hO4 := hm.o4
  have hR6 := hm.r6
  have hK6 := hm.k6
  have hN6 := hm.n6
  have hO6 := hm.o6
  have hR23 := hm.r23
  have hK23 := hm.k23
  have hN23 := hm.n23
  have hO23 := hm.o23
  have hs := h1.1
  have hS := h1.2.1
  intro n
  induction n with
  | zero => intro i I hk9 hn; exact absurd hn (by omega)
  | succ n ih =>
  intro i I hk9 hn hC hF
  have e4 : I (A 134) = I0 (A 134) := hm.fm hC 4 (by decide) (by decide)
  refine v_iload_n hz dX8_layGrams_27 rfl ?_
  refine v_bi (v := nI 8) hz dX8_layGrams_28 (by decide) ?_
  refine v_iload_n hz dX8_layGrams_30 rfl ?_
  first | with_reducible refine v_imulN hz dX8_layGrams_31 ?_ | refine v_imul hz dX8_layGrams_31 ?_
  refine v_aload_n hz dX8_layGrams_32 rfl ?_
  refine v_getR hz fX8_13 (by assumption) (by assumption) dX8_layGrams_33 ?_
  refine v_iload_n hz dX8_layGrams_36 rfl ?_
  refine v_ialdN hz (by assumption) (by assumption) (by omega) (by decide) dX8_layGrams_37 ?_
  refine v_top (y := nI S.1) (by rw [e4]; exact h1.2.2.1) ?_
  first | with_reducible refine v_iaddN hz dX8_layGrams_38 ?_ | refine v_iadd hz dX8_layGrams_38 ?_
  first | with_reducible refine v_icmp_geN hz 89 (by omega) (by omega) dX8_layGrams_39 (by decide) (fun c39 => ?_) (fun c39 => ?_) | refine v_icmp_ge hz 89 dX8_layGrams_39 (by decide) (fun c39 => ?_) (fun c39 => ?_)
  · exact v_vret hz hr dX8_layGrams_89 ⟨hC, hF.to (fun c => by show gcs mcode S c i = gcs mcode S c S.1; rw [show i = S.1 by omega])⟩
  · refine v_ic (v := nI 0) hz dX8_layGrams_42 (by decide) ?_
    refine v_istore_n hz dX8_layGrams_43 (by decide) rfl ?_
    refine v_sub (lp_layGrams_2 hm hz h1 hok i (by omega) (fun I1 hC1 hF1 => ?_) (S.2.1 i + 2) 0 I (by omega) (by omega) (Or.inr rfl) hC (hF.to (fun c => (gck_0 S i c).symm))) ⟨rfl, rfl, rfl, rfl, trivial⟩
    refine v_iincN hz 1 dX8_layGrams_83 (by decide) rfl (by decide) rfl ?_
    refine v_goto hz 27 dX8_layGrams_86 (by decide) ?_
    exact v_sub (ih (i + 1) I1 (by omega) (by omega) hC1 hF1) ⟨rfl, rfl, rfl, trivial⟩
set_option maxHeartbeats 4000000 in
set_option maxRecDepth 100000 in
theorem cX8_layGrams_ok (l : Launch) (g : Gz) (κ : Kz) (I : Iz) (R : Rz) (J : Jz) (A : Nat → Nat) (hm : LM κ R A) (s : Nat) (S : Sg) (h1 : msg I A s S) (hok : okS S) : Ct l mX8_layGrams 0 0 g [.ref (A 130), .int (nI s)] κ I R J (Sv κ R J (fun I1 => Fm [153] A I I1 ∧ mgr I1 A (gct mcode S))) := by
  refine ct_of (by decide) (Nat.le_of_ble_eq_true rfl) ?_
  intro z hz hr hrc hrs
  have hz : Am z cX8_layGrams RX8 4 2 := hz
  have hr : Rt z yX8_layGrams none 0 0 _ := hr
  show V z 4 0 0 0 [(0, .ref (A 130)), (1, .int (nI s))] [] κ I R J
  have hk := hm.k
  have ho := hm.o
  have hR4 := hm.r4
  have hK4 := hm.k4
  have hN4 := hm.n4
  have hO4 := hm.o4
  have hR6 := hm.r6
  have hK6 := hm.k6
  have hN6 := hm.n6
  have hO6 := hm.o6
  have hR23 := hm.r23
  have hK23 := hm.k23
  have hN23 := hm.n23
  have hO23 := hm.o23
  refine v_ic (v := nI 0) hz dX8_layGrams_0 (by decide) ?_
  refine v_istore_n hz dX8_layGrams_1 (by decide) rfl ?_
  refine v_sub (lp_layGrams_0 hm hz (I0 := I) (fun I1 hC hF => ?_) 785 0 I (by omega) (by omega) Fm.rf (fun c hc => absurd hc (by omega))) ⟨rfl, rfl, rfl, trivial⟩
  refine v_bi (v := nI 8) hz dX8_layGrams_22 (by decide) ?_
  refine v_iload_n hz dX8_layGrams_24 rfl ?_
  first | with_reducible refine v_imulN hz dX8_layGrams_25 ?_ | refine v_imul hz dX8_layGrams_25 ?_
  refine v_istore_n hz dX8_layGrams_26 (by decide) rfl ?_
  exact v_sub (lp_layGrams_1 hm hz h1 hok hr (S.1 + 1) 0 I1 (by omega) (by omega) hC (fun c hc => by rw [hF c hc]; rfl)) ⟨rfl, rfl, rfl, trivial⟩
