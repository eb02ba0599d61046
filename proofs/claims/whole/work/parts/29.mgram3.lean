/-- how many grams two counts share, over the reference's codes -/
def smw (f : Nat → Nat) (n : Nat) : Nat := if n = 0 then 0 else smw f (n - 1) + f (n - 1)
termination_by n
theorem smw_eq (f : Nat → Nat) : ∀ n, smw f n = sm f n
  | 0 => by rw [smw, if_pos rfl]; rfl
  | n + 1 => by rw [smw, if_neg (by omega), Nat.add_sub_cancel, smw_eq f n, sm]
def shM (a b : Nat → Nat) : Nat := smw (fun c => min (a c) (b c)) 784
theorem shM_s {a b b' : Nat → Nat} {c0 : Nat} (h0 : c0 < 784) (h : ∀ c, c ≠ c0 → b' c = b c) (h1 : b' c0 = b c0 + 1) : shM a b' = shM a b + (if b c0 < a c0 then 1 else 0) := by
  unfold shM
  rw [smw_eq, smw_eq, sm_bump (f := fun c => min (a c) (b c)) (c := c0) (d := if b c0 < a c0 then 1 else 0) (fun j hj => by rw [h j hj]) (by rw [h1]; split <;> omega) 784, if_pos h0]
theorem shM_0 (a : Nat → Nat) : shM a (fun _ => 0) = 0 := by
  unfold shM
  rw [smw_eq]
  have : ∀ n, sm (fun c => min (a c) 0) n = 0 := by
    intro n
    induction n with
    | zero => rfl
    | succ n ih => rw [sm, ih]; omega
  exact this 784
theorem shM_c {a b b' : Nat → Nat} (h : ∀ c, b c = b' c) : shM a b = shM a b' := by rw [show b = b' from funext h]
theorem sh_eq {a b : Nat} (h : a = b) : some (Value.int (nI a)) = some (Value.int (nI b)) := by rw [h]
theorem sm_lem {f : Nat → Nat} {c : Nat} : ∀ {n : Nat}, (∀ i, i < n → f i ≤ c) → sm f n ≤ c * n
  | 0, _ => by simp [sm]
  | n + 1, h => by
    have := sm_lem (f := f) (c := c) (n := n) (fun i hi => h i (by omega))
    have := h n (by omega)
    rw [sm, Nat.mul_succ]
    omega
theorem gct_le (cd : Nat × Nat → Nat) (S : Sg) (h8 : S.1 ≤ 8) (hL : ∀ i, i < S.1 → S.2.1 i ≤ 12) (c : Nat) : gct cd S c ≤ 104 := by
  have h1 : ∀ i, i < S.1 → (if 0 < S.2.1 i then gcw cd (S.2.1 i) (S.2.2.2 i) c (S.2.1 i + 1) else 0) ≤ 13 := fun i hi => by
    split
    · have := sm_lem (f := fun k => if cd (gp (S.2.1 i) (S.2.2.2 i) k) = c then 1 else 0) (c := 1) (n := S.2.1 i + 1) (fun k _ => by split <;> omega)
      have := hL i hi
      unfold gcw
      omega
    · omega
  have := sm_lem h1
  unfold gct gcs
  omega
theorem gcs_z (S : Sg) (c : Nat) : gcs mcode S c 0 = 0 := rfl
set_option maxHeartbeats 4000000 in
set_option maxRecDepth 100000 in
theorem lp_sharedOf_2 {z : Zz} {κ : Kz} {R : Rz} {J : Jz} {A : Nat → Nat} {I0 : Iz} (hm : LM κ R A) (hz : Am z cX8_sharedOf RX8 7 3) {s1 s2 : Nat} {S T : Sg} (hS8 : S.1 ≤ 8) (hSL : ∀ i, i < S.1 → S.2.1 i ≤ 12) (h2 : msg I0 A s2 T) (hok : okS T) (i : Nat) (hi : i < T.1) (K : ∀ I1, Fm [153] A I0 I1 → mgr I1 A (fun c => gct mcode S c - gcs mcode T c (i + 1)) → V z 7 0 0 112 [(0, .ref (A 130)), (1, .int (nI s1)), (2, .int (nI s2)), (3, .int (nI (shM (gct mcode S) (fun c => gcs mcode T c (i + 1))))), (4, .int (nI (8 * s2 + i)))] [] κ I1 R J) :
    ∀ (n k : Nat) (I : Iz), k ≤ T.2.1 i + 1 → T.2.1 i + 2 ≤ k + n → (0 < T.2.1 i ∨ k = 0) → Fm [153] A I0 I → mgr I A (fun c => gct mcode S c - gck T i k c) → V z 7 0 0 32 [(0, .ref (A 130)), (1, .int (nI s1)), (2, .int (nI s2)), (3, .int (nI (shM (gct mcode S) (gck T i k)))), (4, .int (nI (8 * s2 + i))), (5, .int (nI k))] [] κ I R J := by
  have hk := hm.k
  have ho := hm.o
  have hR4 := hm.r4
  have hK4 := hm.k4
  have hN4 := hm.n4
  have hO4 := hm.o4
  have hR6 := hm.r6
  have hK6 := hm.k6
  have hN6 := hm.n6
  have hO6 := hm.o6
  have hR23 := hm.r23
  have hK23 := hm.k23
  have hN23 := hm.n23
  have hO23 := hm.o23
  have hs := h2.1
  have hS := h2.2.1
  have hl := (hok.2.2 i hi).2.2
  have hL := (hok.2.2 i hi).1
  intro n
  induction n with
  | zero => intro k I hk9 hn; exact absurd hn (by omega)
  | succ n ih =>
  intro k I hk9 hn hor hC hF
  have e6 : I (A 136) = I0 (A 136) := hm.fm hC 6 (by decide) (by decide)
  have e8 : I (A 138) = I0 (A 138) := hm.fm hC 8 (by decide) (by decide)
  have g1 : msn I A (8 * s2 + i) (T.2.1 i) (T.2.2.2 i) := (h2.2.2.2 i hi).1.keep e6 e8
  refine v_iload hz dX8_sharedOf_32 rfl ?_
  refine v_aload_n hz dX8_sharedOf_34 rfl ?_
  refine v_getR hz fX8_19 (by assumption) (by assumption) dX8_sharedOf_35 ?_
  refine v_iload hz dX8_sharedOf_38 rfl ?_
  refine v_ialdN hz (by assumption) (by assumption) (by omega) (by decide) dX8_sharedOf_40 ?_
  refine v_top g1.2.2.1 ?_
  first | with_reducible refine v_icmp_gtN hz 112 (by omega) (by omega) dX8_sharedOf_41 (by decide) (fun c41 => ?_) (fun c41 => ?_) | refine v_icmp_gt hz 112 dX8_sharedOf_41 (by decide) (fun c41 => ?_) (fun c41 => ?_)
  · exact v_sub (K _ hC (hF.to (fun c => by rw [gck_e T i k c (by omega)]))) ⟨rfl, rfl, rfl, sh_eq (shM_c (fun c => gck_e T i k c (by omega))), rfl, trivial⟩
  · refine v_aload_n hz dX8_sharedOf_44 rfl ?_
    refine v_iload hz dX8_sharedOf_45 rfl ?_
    refine v_callVi hz lX8_140 (cX8_isWord_ok _ _ _ _ _ _ A hm (8 * s2 + i) _ (by omega) g1.2.1 g1.2.2.1) (by assumption) rfl rfl (Nat.le_of_ble_eq_true rfl) (by decide) ⟨Nat.zero_le _, Nat.zero_le _⟩ dX8_sharedOf_47 (fun r I1 h47 => ?_)
    obtain ⟨rfl, rfl⟩ := h47
    first | with_reducible refine v_if_eqB hz 112 dX8_sharedOf_50 (by decide) (fun c50 => ?_) (fun c50 => ?_) | with_reducible refine v_if_eqN hz 112 (by omega) dX8_sharedOf_50 (by decide) (fun c50 => ?_) (fun c50 => ?_) | refine v_if_eq hz 112 dX8_sharedOf_50 (by decide) (fun c50 => ?_) (fun c50 => ?_)
    · exact v_sub (K _ hC (hF.to (fun c => by rw [gck_e T i k c (by omega)]))) ⟨rfl, rfl, rfl, sh_eq (shM_c (fun c => gck_e T i k c (by omega))), rfl, trivial⟩
    · refine v_aload_n hz dX8_sharedOf_53 rfl ?_
      refine v_iload hz dX8_sharedOf_54 rfl ?_
      refine v_iload hz dX8_sharedOf_56 rfl ?_
      refine v_callVi hz lX8_176 (cX8_gramAt_ok _ _ _ _ _ _ A hm (8 * s2 + i) _ k _ g1 hl c50 (by omega)) (by assumption) rfl rfl (Nat.le_of_ble_eq_true rfl) (by decide) ⟨Nat.zero_le _, Nat.zero_le _⟩ dX8_sharedOf_58 (fun r I1 h58 => ?_)
      obtain ⟨rfl, rfl⟩ := h58
      have hmc := mcode_lt hl (show k ≤ T.2.1 i by omega)
      have hg1 : ∀ c, c ≠ mcode (gp (T.2.1 i) (T.2.2.2 i) k) → gck T i (k + 1) c = gck T i k c := fun c hc => by rw [gck_s T i k c c50, if_neg (Ne.symm hc)]; rfl
      have hg2 : gck T i (k + 1) (mcode (gp (T.2.1 i) (T.2.2.2 i) k)) = gck T i k (mcode (gp (T.2.1 i) (T.2.2.2 i) k)) + 1 := by rw [gck_s T i k _ c50, if_pos rfl]
      have hsh := shM_s (a := gct mcode S) hmc hg1 hg2
      have hFc := hF _ hmc
      dsimp only at hFc
      have ha : gct mcode S (mcode (gp (T.2.1 i) (T.2.2.2 i) k)) < 2147483648 := Nat.lt_of_le_of_lt (gct_le mcode S hS8 hSL _) (by decide)
      generalize hc0 : mcode (gp (T.2.1 i) (T.2.2.2 i) k) = c0 at hmc hg1 hg2 hsh hFc ha ⊢
      generalize hga : gct mcode S c0 = ga at hsh hFc ha ⊢
      generalize hgb : gck T i k c0 = gb at hg2 hsh hFc ⊢
      refine v_istore hz dX8_sharedOf_61 (by decide) rfl ?_
      refine v_iload_n hz dX8_sharedOf_63 rfl ?_
      refine v_aload_n hz dX8_sharedOf_64 rfl ?_
      refine v_getR hz fX8_56 (by assumption) (by assumption) dX8_sharedOf_65 ?_
      refine v_iload hz dX8_sharedOf_68 rfl ?_
      refine v_ialdN hz (by assumption) (by assumption) hmc (by decide) dX8_sharedOf_70 ?_
      refine v_top hFc ?_
      first | with_reducible refine v_if_leN hz 78 (by omega) dX8_sharedOf_71 (by decide) (fun c71 => ?_) (fun c71 => ?_) | refine v_if_le hz 78 dX8_sharedOf_71 (by decide) (fun c71 => ?_) (fun c71 => ?_)
      · refine v_ic (v := nI 0) hz dX8_sharedOf_78 (by decide) ?_
        first | with_reducible refine v_iaddN hz dX8_sharedOf_79 ?_ | refine v_iadd hz dX8_sharedOf_79 ?_
        refine v_top (y := nI (shM (gct mcode S) (gck T i (k + 1)))) (by rw [hsh]; first | rw [if_pos (by omega)] | rw [if_neg (by omega)]) ?_
        refine v_istore_n hz dX8_sharedOf_80 (by decide) rfl ?_
        refine v_aload_n hz dX8_sharedOf_81 rfl ?_
        refine v_getR hz fX8_56 (by assumption) (by assumption) dX8_sharedOf_82 ?_
        refine v_iload hz dX8_sharedOf_85 rfl ?_
        refine v_dup2 hz dX8_sharedOf_87 rfl rfl ?_
        refine v_ialdN hz (by assumption) (by assumption) hmc (by decide) dX8_sharedOf_88 ?_
        refine v_top hFc ?_
        refine v_aload_n hz dX8_sharedOf_89 rfl ?_
        refine v_getR hz fX8_56 (by assumption) (by assumption) dX8_sharedOf_90 ?_
        refine v_iload hz dX8_sharedOf_93 rfl ?_
        refine v_ialdN hz (by assumption) (by assumption) hmc (by decide) dX8_sharedOf_95 ?_
        refine v_top hFc ?_
        first | with_reducible refine v_if_leN hz 103 (by omega) dX8_sharedOf_96 (by decide) (fun c96 => ?_) (fun c96 => ?_) | refine v_if_le hz 103 dX8_sharedOf_96 (by decide) (fun c96 => ?_) (fun c96 => ?_)
        · first
          | (exfalso; omega)
          | (refine v_ic (v := nI 0) hz dX8_sharedOf_103 (by decide) ?_
             refine v_isubN hz (by omega) dX8_sharedOf_104 ?_
             refine v_iastN hz (by assumption) (by assumption) hmc (by decide) dX8_sharedOf_105 ?_
             first | refine v_iincN hz 1 dX8_sharedOf_106 (by decide) rfl (by decide) rfl ?_ | refine v_iinc hz dX8_sharedOf_106 rfl (by decide) rfl ?_
             refine v_goto hz 32 dX8_sharedOf_109 (by decide) ?_
             exact v_sub (ih (k + 1) _ (by omega) (by omega) (Or.inl c50) (hC.put (by decide)) (hF.put (g := fun c => gct mcode S c - gck T i (k + 1) c) (fun c hc => by rw [hg1 c hc]) (by rw [hg2, hga]; omega))) ⟨rfl, rfl, rfl, rfl, rfl, rfl, trivial⟩)
        · first
          | (exfalso; omega)
          | (refine v_ic (v := nI 1) hz dX8_sharedOf_99 (by decide) ?_
             refine v_goto hz 104 dX8_sharedOf_100 (by decide) ?_
             refine v_isubN hz (by omega) dX8_sharedOf_104 ?_
             refine v_iastN hz (by assumption) (by assumption) hmc (by decide) dX8_sharedOf_105 ?_
             first | refine v_iincN hz 1 dX8_sharedOf_106 (by decide) rfl (by decide) rfl ?_ | refine v_iinc hz dX8_sharedOf_106 rfl (by decide) rfl ?_
             refine v_goto hz 32 dX8_sharedOf_109 (by decide) ?_
             exact v_sub (ih (k + 1) _ (by omega) (by omega) (Or.inl c50) (hC.put (by decide)) (hF.put (g := fun c => gct mcode S c - gck T i (k + 1) c) (fun c hc => by rw [hg1 c hc]) (by rw [hg2, hga]; omega))) ⟨rfl, rfl, rfl, rfl, rfl, rfl, trivial⟩)
      · refine v_ic (v := nI 1) hz dX8_sharedOf_74 (by decide) ?_
        refine v_goto hz 79 dX8_sharedOf_75 (by decide) ?_
        first | with_reducible refine v_iaddN hz dX8_sharedOf_79 ?_ | refine v_iadd hz dX8_sharedOf_79 ?_
        refine v_top (y := nI (shM (gct mcode S) (gck T i (k + 1)))) (by rw [hsh]; first | rw [if_pos (by omega)] | rw [if_neg (by omega)]) ?_
        refine v_istore_n hz dX8_sharedOf_80 (by decide) rfl ?_
        refine v_aload_n hz dX8_sharedOf_81 rfl ?_
        refine v_getR hz fX8_56 (by assumption) (by assumption) dX8_sharedOf_82 ?_
        refine v_iload hz dX8_sharedOf_85 rfl ?_
        refine v_dup2 hz dX8_sharedOf_87 rfl rfl ?_
        refine v_ialdN hz (by assumption) (by assumption) hmc (by decide) dX8_sharedOf_88 ?_
        refine v_top hFc ?_
        refine v_aload_n hz dX8_sharedOf_89 rfl ?_
        refine v_getR hz fX8_56 (by assumption) (by assumption) dX8_sharedOf_90 ?_
        refine v_iload hz dX8_sharedOf_93 rfl ?_
        refine v_ialdN hz (by assumption) (by assumption) hmc (by decide) dX8_sharedOf_95 ?_
        refine v_top hFc ?_
        first | with_reducible refine v_if_leN hz 103 (by omega) dX8_sharedOf_96 (by decide) (fun c96 => ?_) (fun c96 => ?_) | refine v_if_le hz 103 dX8_sharedOf_96 (by decide) (fun c96 => ?_) (fun c96 => ?_)
        · first
          | (exfalso; omega)
          | (refine v_ic (v := nI 0) hz dX8_sharedOf_103 (by decide) ?_
             refine v_isubN hz (by omega) dX8_sharedOf_104 ?_
             refine v_iastN hz (by assumption) (by assumption) hmc (by decide) dX8_sharedOf_105 ?_
             first | refine v_iincN hz 1 dX8_sharedOf_106 (by decide) rfl (by decide) rfl ?_ | refine v_iinc hz dX8_sharedOf_106 rfl (by decide) rfl ?_
             refine v_goto hz 32 dX8_sharedOf_109 (by decide) ?_
             exact v_sub (ih (k + 1) _ (by omega) (by omega) (Or.inl c50) (hC.put (by decide)) (hF.put (g := fun c => gct mcode S c - gck T i (k + 1) c) (fun c hc => by rw [hg1 c hc]) (by rw [hg2, hga]; omega))) ⟨rfl, rfl, rfl, rfl, rfl, rfl, trivial⟩)
        · first
          | (exfalso; omega)
          | (refine v_ic (v := nI 1) hz dX8_sharedOf_99 (by decide) ?_
             refine v_goto hz 104 dX8_sharedOf_100 (by decide) ?_
             refine v_isubN hz (by omega) dX8_sharedOf_104 ?_
             refine v_iastN hz (by assumption) (by assumption) hmc (by decide) dX8_sharedOf_105 ?_
             first | refine v_iincN hz 1 dX8_sharedOf_106 (by decide) rfl (by decide) rfl ?_ | refine v_iinc hz dX8_sharedOf_106 rfl (by decide) rfl ?_
             refine v_goto hz 32 dX8_sharedOf_109 (by decide) ?_
             exact v_sub (ih (k + 1) _ (by omega) (by omega) (Or.inl c50) (hC.put (by decide)) (hF.put (g := fun c => gct mcode S c - gck T i (k + 1) c) (fun c hc => by rw [hg1 c hc]) (by rw [hg2, hga]; omega))) ⟨rfl, rfl, rfl, rfl, rfl, rfl, trivial⟩)
set_option maxHeartbeats 4000000 in
set_option maxRecDepth 100000 in
theorem lp_sharedOf_1 {z : Zz} {κ : Kz} {R : Rz} {J : Jz} {A : Nat → Nat} {I0 : Iz} (hm : LM κ R A) (hz : Am z cX8_sharedOf RX8 7 3) {s1 s2 : Nat} {S T : Sg} (hS8 : S.1 ≤ 8) (hSL : ∀ i, i < S.1 → S.2.1 i ≤ 12) (h2 : msg I0 A s2 T) (hok : okS T) (hr : Rt z yX8_sharedOf (some .int) 0 0 (Si κ R J (fun r I1 => r = nI (shM (gct mcode S) (gct mcode T)) ∧ Fm [153] A I0 I1))) :
    ∀ (n i : Nat) (I : Iz), i ≤ T.1 → T.1 + 1 ≤ i + n → Fm [153] A I0 I → mgr I A (fun c => gct mcode S c - gcs mcode T c i) → V z 7 0 0 13 [(0, .ref (A 130)), (1, .int (nI s1)), (2, .int (nI s2)), (3, .int (nI (shM (gct mcode S) (fun c => gcs mcode T c i)))), (4, .int (nI (8 * s2 + i)))] [] κ I R J := by
  have hk := hm.k
  have ho := hm.o
  have hR4 := hm.r4
  have hK4 := hm.k4
  have hN4 := hm.n4
  have hO4 := hm.o4
  have hR6 := hm.r6
  have hK6 := hm.k6
  have hN6 := hm.n6
  have hO6 := hm.o6
  have hR23 := hm.r23
  have hK23 := hm.k23
  have hN23 := hm.n23
  have hO23 := hm.o23
  have hs := h2.1
  have hS := h2.2.1
  intro n
  induction n with
  | zero => intro i I hk9 hn; exact absurd hn (by omega)
  | succ n ih =>
  intro i I hk9 hn hC hF
  have e4 : I (A 134) = I0 (A 134) := hm.fm hC 4 (by decide) (by decide)
  refine v_iload hz dX8_sharedOf_13 rfl ?_
  refine v_bi (v := nI 8) hz dX8_sharedOf_15 (by decide) ?_
  refine v_iload_n hz dX8_sharedOf_17 rfl ?_
  first | with_reducible refine v_imulN hz dX8_sharedOf_18 ?_ | refine v_imul hz dX8_sharedOf_18 ?_
  refine v_aload_n hz dX8_sharedOf_19 rfl ?_
  refine v_getR hz fX8_13 (by assumption) (by assumption) dX8_sharedOf_20 ?_
  refine v_iload_n hz dX8_sharedOf_23 rfl ?_
  refine v_ialdN hz (by assumption) (by assumption) (by omega) (by decide) dX8_sharedOf_24 ?_
  refine v_top (y := nI T.1) (by rw [e4]; exact h2.2.2.1) ?_
  first | with_reducible refine v_iaddN hz dX8_sharedOf_25 ?_ | refine v_iadd hz dX8_sharedOf_25 ?_
  first | with_reducible refine v_icmp_geN hz 118 (by omega) (by omega) dX8_sharedOf_26 (by decide) (fun c26 => ?_) (fun c26 => ?_) | refine v_icmp_ge hz 118 dX8_sharedOf_26 (by decide) (fun c26 => ?_) (fun c26 => ?_)
  · refine v_iload_n hz dX8_sharedOf_118 rfl ?_
    exact v_iret hz hr dX8_sharedOf_119 ⟨by rw [show i = T.1 by omega]; rfl, hC⟩
  · refine v_ic (v := nI 0) hz dX8_sharedOf_29 (by decide) ?_
    refine v_istore hz dX8_sharedOf_30 (by decide) rfl ?_
    refine v_sub (lp_sharedOf_2 hm hz hS8 hSL h2 hok i (by omega) (fun I1 hC1 hF1 => ?_) (T.2.1 i + 2) 0 I (by omega) (by omega) (Or.inr rfl) hC (hF.to (fun c => by rw [gck_0]))) ⟨rfl, rfl, rfl, sh_eq (shM_c (fun c => (gck_0 T i c).symm)), rfl, rfl, trivial⟩
    refine v_iincN hz 1 dX8_sharedOf_112 (by decide) rfl (by decide) rfl ?_
    refine v_goto hz 13 dX8_sharedOf_115 (by decide) ?_
    exact v_sub (ih (i + 1) I1 (by omega) (by omega) hC1 hF1) ⟨rfl, rfl, rfl, rfl, rfl, trivial⟩
set_option maxHeartbeats 4000000 in
set_option maxRecDepth 100000 in
theorem cX8_sharedOf_ok (l : Launch) (g : Gz) (κ : Kz) (I : Iz) (R : Rz) (J : Jz) (A : Nat → Nat) (hm : LM κ R A) (s1 s2 : Nat) (S T : Sg) (h1 : msg I A s1 S) (h2 : msg I A s2 T) (hok1 : okS S) (hok2 : okS T) : Ct l mX8_sharedOf 0 0 g [.ref (A 130), .int (nI s1), .int (nI s2)] κ I R J (Si κ R J (fun r I1 => r = nI (shM (gct mcode S) (gct mcode T)) ∧ Fm [153] A I I1)) := by
  refine ct_of (by decide) (Nat.le_of_ble_eq_true rfl) ?_
  intro z hz hr hrc hrs
  have hz : Am z cX8_sharedOf RX8 7 3 := hz
  have hr : Rt z yX8_sharedOf (some .int) 0 0 _ := hr
  show V z 7 0 0 0 [(0, .ref (A 130)), (1, .int (nI s1)), (2, .int (nI s2))] [] κ I R J
  have hk := hm.k
  have ho := hm.o
  have hR4 := hm.r4
  have hK4 := hm.k4
  have hN4 := hm.n4
  have hO4 := hm.o4
  have hR6 := hm.r6
  have hK6 := hm.k6
  have hN6 := hm.n6
  have hO6 := hm.o6
  have hR23 := hm.r23
  have hK23 := hm.k23
  have hN23 := hm.n23
  have hO23 := hm.o23
  refine v_aload_n hz dX8_sharedOf_0 rfl ?_
  refine v_iload_n hz dX8_sharedOf_1 rfl ?_
  refine v_callVv hz lX8_179 (cX8_layGrams_ok _ _ _ _ _ _ A hm s1 S h1 hok1) (by assumption) rfl rfl (Nat.le_of_ble_eq_true rfl) (by decide) ⟨Nat.zero_le _, Nat.zero_le _⟩ dX8_sharedOf_2 (fun I1 hlg => ?_)
  obtain ⟨hC, hF⟩ := hlg
  refine v_ic (v := nI 0) hz dX8_sharedOf_5 (by decide) ?_
  refine v_istore_n hz dX8_sharedOf_6 (by decide) rfl ?_
  refine v_bi (v := nI 8) hz dX8_sharedOf_7 (by decide) ?_
  refine v_iload_n hz dX8_sharedOf_9 rfl ?_
  first | with_reducible refine v_imulN hz dX8_sharedOf_10 ?_ | refine v_imul hz dX8_sharedOf_10 ?_
  refine v_istore hz dX8_sharedOf_11 (by decide) rfl ?_
  exact v_sub (lp_sharedOf_1 (S := S) hm hz (I0 := I) hok1.2.1 (fun i hi => (hok1.2.2 i hi).1) h2 hok2 hr (T.1 + 1) 0 I1 (by omega) (by omega) hC (hF.to (fun c => by rw [gcs_z]; rfl))) ⟨rfl, rfl, rfl, sh_eq (shM_0 _).symm, rfl, trivial⟩