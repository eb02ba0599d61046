/-! ===== the least number of letters to alter ===== -/
def lev (x y : Nat → Nat) : Nat → Nat → Nat
  | 0, b => b
  | a + 1, 0 => a + 1
  | a + 1, b + 1 => min (lev x y a b + (if x a = y b then 0 else 1)) (1 + min (lev x y a (b + 1)) (lev x y (a + 1) b))
termination_by a b => a + b
theorem lev_0 (x y : Nat → Nat) (b : Nat) : lev x y 0 b = b := by rw [lev]
theorem lev_s0 (x y : Nat → Nat) (a : Nat) : lev x y (a + 1) 0 = a + 1 := by rw [lev]
theorem lev_a0 (x y : Nat → Nat) (a : Nat) : lev x y a 0 = a := by
  cases a with
  | zero => rw [lev_0]
  | succ a => rw [lev_s0]
theorem lev_ss (x y : Nat → Nat) (a b : Nat) : lev x y (a + 1) (b + 1) = min (lev x y a b + (if x a = y b then 0 else 1)) (1 + min (lev x y a (b + 1)) (lev x y (a + 1) b)) := by rw [lev]
theorem lev_le (x y : Nat → Nat) : ∀ a b : Nat, lev x y a b ≤ a + b
  | 0, b => by rw [lev_0]; omega
  | a + 1, 0 => by rw [lev_s0]; omega
  | a + 1, b + 1 => by
    rw [lev_ss]
    have := lev_le x y a (b + 1)
    omega
theorem lev_p1 {x y : Nat → Nat} {a b : Nat} (h : ¬ a ≠ 0) : b = lev x y a b := by
  have e : a = 0 := by omega
  rw [e, lev_0]
theorem lev_p2 {x y : Nat → Nat} {a b : Nat} (h : ¬ b ≠ 0) : a = lev x y a b := by
  have e : b = 0 := by omega
  rw [e, lev_a0]
theorem lev_p3 {x y : Nat → Nat} {a b : Nat} (ha : a ≠ 0) (hb : b ≠ 0) (hc : x (a - 1) ≠ y (b - 1)) : min (lev x y (a - 1) (b - 1) + 1) (1 + min (lev x y (a - 1) b) (lev x y a (b - 1))) = lev x y a b := by
  obtain ⟨a, rfl⟩ : ∃ q, a = q + 1 := ⟨a - 1, by omega⟩
  obtain ⟨b, rfl⟩ : ∃ q, b = q + 1 := ⟨b - 1, by omega⟩
  simp only [Nat.add_sub_cancel] at hc ⊢
  rw [lev_ss, if_neg hc]
theorem lev_p4 {x y : Nat → Nat} {a b : Nat} (ha : a ≠ 0) (hb : b ≠ 0) (hc : ¬ x (a - 1) ≠ y (b - 1)) : min (lev x y (a - 1) (b - 1) + 0) (1 + min (lev x y (a - 1) b) (lev x y a (b - 1))) = lev x y a b := by
  obtain ⟨a, rfl⟩ : ∃ q, a = q + 1 := ⟨a - 1, by omega⟩
  obtain ⟨b, rfl⟩ : ∃ q, b = q + 1 := ⟨b - 1, by omega⟩
  simp only [Nat.add_sub_cancel] at hc ⊢
  rw [lev_ss, if_pos (Classical.not_not.mp hc)]
/-- a sign of the reference, at its place q: its letters -/
def msn (I : Iz) (A : Nat → Nat) (q L : Nat) (T : Nat → Nat) : Prop := q < 112 ∧ L ≤ 12 ∧ I (A 136) q = nI L ∧ ∀ j, j < L → I (A 138) (12 * q + j) = nI (T j) ∧ T j < 128
theorem msn.keep {I I1 : Iz} {A : Nat → Nat} {q L : Nat} {T : Nat → Nat} (h : msn I A q L T) (h6 : I1 (A 136) = I (A 136)) (h8 : I1 (A 138) = I (A 138)) : msn I1 A q L T := by
  unfold msn
  rw [h6, h8]
  exact h
theorem nI_min {a b : Nat} (ha : a < 2147483648) (hb : b < 2147483648) : (if nI a < nI b then nI a else nI b) = nI (min a b) := by
  by_cases h : a < b
  · rw [if_pos ((nI_ltI ha hb).mpr h), Nat.min_eq_left (by omega)]
  · rw [if_neg (fun q => h ((nI_ltI ha hb).mp q)), Nat.min_eq_right (by omega)]
def levF (I : Iz) (A : Nat → Nat) (T1 T2 : Nat → Nat) (L1 L2 a b : Nat) : Prop := ∀ a' b', a' ≤ L1 → b' ≤ L2 → (a' < a ∨ (a' = a ∧ b' < b)) → I (A 145) (13 * a' + b') = nI (lev T1 T2 a' b')
theorem levF.put {I : Iz} {A : Nat → Nat} {T1 T2 : Nat → Nat} {L1 L2 a b x : Nat} (h : levF I A T1 T2 L1 L2 a b) (hL : L2 ≤ 12) (ha : a ≤ L1) (hb : b ≤ L2) (hx : x = lev T1 T2 a b) : levF (u2 I (A 145) (13 * a + b) (nI x)) A T1 T2 L1 L2 a (b + 1) := by
  intro a' b' h1 h2 h3
  by_cases e : a' = a ∧ b' = b
  · obtain ⟨rfl, rfl⟩ := e
    rw [u2_eq, hx]
  · rw [u2_at (by omega)]
    exact h a' b' h1 h2 (by omega)
set_option maxHeartbeats 4000000 in
set_option maxRecDepth 100000 in
theorem lp_changes_in {z : Zz} {κ : Kz} {R : Rz} {J : Jz} {A : Nat → Nat} (hz : Am z cX8_changes RX8 8 1) (hm : LM κ R A) {I0 : Iz} {q1 q2 L1 L2 : Nat} {T1 T2 : Nat → Nat} (h1 : msn I0 A q1 L1 T1) (h2 : msn I0 A q2 L2 T2) (a : Nat) (ha : a ≤ L1) (K : ∀ I1, (∀ b, b ≠ A 145 → I1 b = I0 b) → levF I1 A T1 T2 L1 L2 a (L2 + 1) → V z 8 0 0 187 [(0, .ref (A 130)), (1, .int (nI q1)), (2, .int (nI q2)), (3, .int (nI L1)), (4, .int (nI L2)), (5, .int (nI a))] [] κ I1 R J) :
    ∀ (n b : Nat) (I : Iz), b ≤ L2 + 1 → L2 + 2 ≤ b + n → (∀ b, b ≠ A 145 → I b = I0 b) → levF I A T1 T2 L1 L2 a b → V z 8 0 0 27 [(0, .ref (A 130)), (1, .int (nI q1)), (2, .int (nI q2)), (3, .int (nI L1)), (4, .int (nI L2)), (5, .int (nI a)), (6, .int (nI b))] [] κ I R J := by
  have hk := hm.k
  have ho := hm.o
  have hR6 := hm.r6
  have hK6 := hm.k6
  have hN6 := hm.n6
  have hO6 := hm.o6
  have hR8 := hm.r8
  have hK8 := hm.k8
  have hN8 := hm.n8
  have hO8 := hm.o8
  have hR15 := hm.r15
  have hK15 := hm.k15
  have hN15 := hm.n15
  have hO15 := hm.o15
  obtain ⟨hq1, hL1, hs1, ht1⟩ := h1
  obtain ⟨hq2, hL2, hs2, ht2⟩ := h2
  intro n
  induction n with
  | zero => intro b I hb hn; exact absurd hn (by omega)
  | succ n ih =>
  intro b I hb hn hC hF
  have e6 : I (A 136) = I0 (A 136) := hC _ (tag_ne hO6 hO15 (by decide))
  have e8 : I (A 138) = I0 (A 138) := hC _ (tag_ne hO8 hO15 (by decide))
  refine v_iload hz dX8_changes_27 rfl ?_
  refine v_iload hz dX8_changes_29 rfl ?_
  first | with_reducible refine v_icmp_gtN hz 187 (by omega) (by omega) dX8_changes_31 (by decide) (fun c31 => ?_) (fun c31 => ?_) | refine v_icmp_gt hz 187 dX8_changes_31 (by decide) (fun c31 => ?_) (fun c31 => ?_)
  · exact v_sub (K I hC (by intro a2 b2 g1 g2 g3; exact hF a2 b2 g1 g2 (by omega))) ⟨rfl, rfl, rfl, rfl, rfl, rfl, trivial⟩
  · refine v_iload hz dX8_changes_34 rfl ?_
    first | with_reducible refine v_if_neB hz 44 dX8_changes_36 (by decide) (fun c36 => ?_) (fun c36 => ?_) | with_reducible refine v_if_neN hz 44 (by omega) dX8_changes_36 (by decide) (fun c36 => ?_) (fun c36 => ?_) | refine v_if_ne hz 44 dX8_changes_36 (by decide) (fun c36 => ?_) (fun c36 => ?_)
    · first
      | (exfalso; omega)
      | (refine v_iload hz dX8_changes_44 rfl ?_
         first | with_reducible refine v_if_neB hz 54 dX8_changes_46 (by decide) (fun c46 => ?_) (fun c46 => ?_) | with_reducible refine v_if_neN hz 54 (by omega) dX8_changes_46 (by decide) (fun c46 => ?_) (fun c46 => ?_) | refine v_if_ne hz 54 dX8_changes_46 (by decide) (fun c46 => ?_) (fun c46 => ?_)
         · first
           | (exfalso; omega)
           | (refine v_aload_n hz dX8_changes_54 rfl ?_
              refine v_getR hz fX8_35 (by assumption) (by assumption) dX8_changes_55 ?_
              refine v_bi (v := nI 13) hz dX8_changes_58 (by decide) ?_
              refine v_iload hz dX8_changes_60 rfl ?_
              refine v_ic (v := nI 1) hz dX8_changes_62 (by decide) ?_
              refine v_isubN hz (by omega) dX8_changes_63 ?_
              first | with_reducible refine v_imulN hz dX8_changes_64 ?_ | refine v_imul hz dX8_changes_64 ?_
              refine v_iload hz dX8_changes_65 rfl ?_
              first | with_reducible refine v_iaddN hz dX8_changes_67 ?_ | refine v_iadd hz dX8_changes_67 ?_
              refine v_ic (v := nI 1) hz dX8_changes_68 (by decide) ?_
              refine v_isubN hz (by omega) dX8_changes_69 ?_
              refine v_ialdN hz (by assumption) (by assumption) (by omega) (by decide) dX8_changes_70 ?_
              refine v_top (y := nI (lev T1 T2 (a - 1) (b - 1))) (by rw [show 13 * (a - 1) + b - 1 = 13 * (a - 1) + (b - 1) by omega]; exact hF (a - 1) (b - 1) (by omega) (by omega) (by omega)) ?_
              refine v_istore hz dX8_changes_71 (by decide) rfl ?_
              refine v_iload hz dX8_changes_73 rfl ?_
              first | with_reducible refine v_if_leN hz 166 (by omega) dX8_changes_75 (by decide) (fun c75 => ?_) (fun c75 => ?_) | refine v_if_le hz 166 dX8_changes_75 (by decide) (fun c75 => ?_) (fun c75 => ?_)
              · first
                | (exfalso; omega)
                | (refine v_aload_n hz dX8_changes_166 rfl ?_
                   refine v_getR hz fX8_35 (by assumption) (by assumption) dX8_changes_167 ?_
                   refine v_bi (v := nI 13) hz dX8_changes_170 (by decide) ?_
                   refine v_iload hz dX8_changes_172 rfl ?_
                   first | with_reducible refine v_imulN hz dX8_changes_174 ?_ | refine v_imul hz dX8_changes_174 ?_
                   refine v_iload hz dX8_changes_175 rfl ?_
                   first | with_reducible refine v_iaddN hz dX8_changes_177 ?_ | refine v_iadd hz dX8_changes_177 ?_
                   refine v_iload hz dX8_changes_178 rfl ?_
                   refine v_iastN hz (by assumption) (by assumption) (by omega) (by decide) dX8_changes_180 ?_
                   first | refine v_iincN hz 1 dX8_changes_181 (by decide) rfl (by decide) rfl ?_ | refine v_iinc hz dX8_changes_181 rfl (by decide) rfl ?_
                   refine v_goto hz 27 dX8_changes_184 (by decide) ?_
                   exact v_sub (ih (b + 1) _ (by omega) (by omega) (fun b2 hb2 => by rw [u2_ne hb2]; exact hC b2 hb2) (hF.put (by omega) (by omega) (by omega) (by first | exact lev_p1 c36 | exact lev_p2 c46 | exact lev_p3 c36 c46 c113 | exact lev_p4 c36 c46 c113))) ⟨rfl, rfl, rfl, rfl, rfl, rfl, rfl, trivial⟩)
              · first
                | (exfalso; omega)
                | (refine v_iload hz dX8_changes_78 rfl ?_
                   first | with_reducible refine v_if_leN hz 166 (by omega) dX8_changes_80 (by decide) (fun c80 => ?_) (fun c80 => ?_) | refine v_if_le hz 166 dX8_changes_80 (by decide) (fun c80 => ?_) (fun c80 => ?_)
                   · first
                     | (exfalso; omega)
                     | (refine v_aload_n hz dX8_changes_166 rfl ?_
                        refine v_getR hz fX8_35 (by assumption) (by assumption) dX8_changes_167 ?_
                        refine v_bi (v := nI 13) hz dX8_changes_170 (by decide) ?_
                        refine v_iload hz dX8_changes_172 rfl ?_
                        first | with_reducible refine v_imulN hz dX8_changes_174 ?_ | refine v_imul hz dX8_changes_174 ?_
                        refine v_iload hz dX8_changes_175 rfl ?_
                        first | with_reducible refine v_iaddN hz dX8_changes_177 ?_ | refine v_iadd hz dX8_changes_177 ?_
                        refine v_iload hz dX8_changes_178 rfl ?_
                        refine v_iastN hz (by assumption) (by assumption) (by omega) (by decide) dX8_changes_180 ?_
                        first | refine v_iincN hz 1 dX8_changes_181 (by decide) rfl (by decide) rfl ?_ | refine v_iinc hz dX8_changes_181 rfl (by decide) rfl ?_
                        refine v_goto hz 27 dX8_changes_184 (by decide) ?_
                        exact v_sub (ih (b + 1) _ (by omega) (by omega) (fun b2 hb2 => by rw [u2_ne hb2]; exact hC b2 hb2) (hF.put (by omega) (by omega) (by omega) (by first | exact lev_p1 c36 | exact lev_p2 c46 | exact lev_p3 c36 c46 c113 | exact lev_p4 c36 c46 c113))) ⟨rfl, rfl, rfl, rfl, rfl, rfl, rfl, trivial⟩)
                   · first
                     | (exfalso; omega)
                     | (refine v_iload hz dX8_changes_83 rfl ?_
                        refine v_aload_n hz dX8_changes_85 rfl ?_
                        refine v_getR hz fX8_25 (by assumption) (by assumption) dX8_changes_86 ?_
                        refine v_bi (v := nI 12) hz dX8_changes_89 (by decide) ?_
                        refine v_iload_n hz dX8_changes_91 rfl ?_
                        first | with_reducible refine v_imulN hz dX8_changes_92 ?_ | refine v_imul hz dX8_changes_92 ?_
                        refine v_iload hz dX8_changes_93 rfl ?_
                        first | with_reducible refine v_iaddN hz dX8_changes_95 ?_ | refine v_iadd hz dX8_changes_95 ?_
                        refine v_ic (v := nI 1) hz dX8_changes_96 (by decide) ?_
                        refine v_isubN hz (by omega) dX8_changes_97 ?_
                        refine v_ialdN hz (by assumption) (by assumption) (by omega) (by decide) dX8_changes_98 ?_
                        refine v_top (y := nI (T1 (a - 1))) (by rw [e8, show 12 * q1 + a - 1 = 12 * q1 + (a - 1) by omega]; exact (ht1 (a - 1) (by omega)).1) ?_
                        refine v_aload_n hz dX8_changes_99 rfl ?_
                        refine v_getR hz fX8_25 (by assumption) (by assumption) dX8_changes_100 ?_
                        refine v_bi (v := nI 12) hz dX8_changes_103 (by decide) ?_
                        refine v_iload_n hz dX8_changes_105 rfl ?_
                        first | with_reducible refine v_imulN hz dX8_changes_106 ?_ | refine v_imul hz dX8_changes_106 ?_
                        refine v_iload hz dX8_changes_107 rfl ?_
                        first | with_reducible refine v_iaddN hz dX8_changes_109 ?_ | refine v_iadd hz dX8_changes_109 ?_
                        refine v_ic (v := nI 1) hz dX8_changes_110 (by decide) ?_
                        refine v_isubN hz (by omega) dX8_changes_111 ?_
                        refine v_ialdN hz (by assumption) (by assumption) (by omega) (by decide) dX8_changes_112 ?_
                        refine v_top (y := nI (T2 (b - 1))) (by rw [e8, show 12 * q2 + b - 1 = 12 * q2 + (b - 1) by omega]; exact (ht2 (b - 1) (by omega)).1) ?_
                        have b1 := (ht1 (a - 1) (by omega)).2
                        have b2 := (ht2 (b - 1) (by omega)).2
                        first | with_reducible refine v_icmp_neN hz 120 (by omega) (by omega) dX8_changes_113 (by decide) (fun c113 => ?_) (fun c113 => ?_) | refine v_icmp_ne hz 120 dX8_changes_113 (by decide) (fun c113 => ?_) (fun c113 => ?_)
                        · refine v_ic (v := nI 1) hz dX8_changes_120 (by decide) ?_
                          first | with_reducible refine v_iaddN hz dX8_changes_121 ?_ | refine v_iadd hz dX8_changes_121 ?_
                          refine v_istore hz dX8_changes_122 (by decide) rfl ?_
                          refine v_iload hz dX8_changes_124 rfl ?_
                          refine v_ic (v := nI 1) hz dX8_changes_126 (by decide) ?_
                          refine v_aload_n hz dX8_changes_127 rfl ?_
                          refine v_getR hz fX8_35 (by assumption) (by assumption) dX8_changes_128 ?_
                          refine v_bi (v := nI 13) hz dX8_changes_131 (by decide) ?_
                          refine v_iload hz dX8_changes_133 rfl ?_
                          refine v_ic (v := nI 1) hz dX8_changes_135 (by decide) ?_
                          refine v_isubN hz (by omega) dX8_changes_136 ?_
                          first | with_reducible refine v_imulN hz dX8_changes_137 ?_ | refine v_imul hz dX8_changes_137 ?_
                          refine v_iload hz dX8_changes_138 rfl ?_
                          first | with_reducible refine v_iaddN hz dX8_changes_140 ?_ | refine v_iadd hz dX8_changes_140 ?_
                          refine v_ialdN hz (by assumption) (by assumption) (by omega) (by decide) dX8_changes_141 ?_
                          refine v_top (y := nI (lev T1 T2 (a - 1) b)) (by exact hF (a - 1) b (by omega) (by omega) (by omega)) ?_
                          refine v_aload_n hz dX8_changes_142 rfl ?_
                          refine v_getR hz fX8_35 (by assumption) (by assumption) dX8_changes_143 ?_
                          refine v_bi (v := nI 13) hz dX8_changes_146 (by decide) ?_
                          refine v_iload hz dX8_changes_148 rfl ?_
                          first | with_reducible refine v_imulN hz dX8_changes_150 ?_ | refine v_imul hz dX8_changes_150 ?_
                          refine v_iload hz dX8_changes_151 rfl ?_
                          first | with_reducible refine v_iaddN hz dX8_changes_153 ?_ | refine v_iadd hz dX8_changes_153 ?_
                          refine v_ic (v := nI 1) hz dX8_changes_154 (by decide) ?_
                          refine v_isubN hz (by omega) dX8_changes_155 ?_
                          refine v_ialdN hz (by assumption) (by assumption) (by omega) (by decide) dX8_changes_156 ?_
                          refine v_top (y := nI (lev T1 T2 a (b - 1))) (by rw [show 13 * a + b - 1 = 13 * a + (b - 1) by omega]; exact hF a (b - 1) (by omega) (by omega) (by omega)) ?_
                          refine v_callSi hz lX8_133 (cX8_least_ok _ _ _ _ _ _ _ _) rfl rfl (Nat.le_of_ble_eq_true rfl) (by decide) ⟨Nat.zero_le _, Nat.zero_le _⟩ dX8_changes_157 (fun r I1 h157 => ?_)
                          obtain ⟨rfl, rfl⟩ := h157
                          have l1 := lev_le T1 T2 (a - 1) (b - 1)
                          have l2 := lev_le T1 T2 (a - 1) b
                          have l3 := lev_le T1 T2 a (b - 1)
                          refine v_top (nI_min (by omega) (by omega)) ?_
                          first | with_reducible refine v_iaddN hz dX8_changes_160 ?_ | refine v_iadd hz dX8_changes_160 ?_
                          refine v_callSi hz lX8_133 (cX8_least_ok _ _ _ _ _ _ _ _) rfl rfl (Nat.le_of_ble_eq_true rfl) (by decide) ⟨Nat.zero_le _, Nat.zero_le _⟩ dX8_changes_161 (fun r I1 h161 => ?_)
                          obtain ⟨rfl, rfl⟩ := h161
                          refine v_top (nI_min (by omega) (by omega)) ?_
                          refine v_istore hz dX8_changes_164 (by decide) rfl ?_
                          refine v_aload_n hz dX8_changes_166 rfl ?_
                          refine v_getR hz fX8_35 (by assumption) (by assumption) dX8_changes_167 ?_
                          refine v_bi (v := nI 13) hz dX8_changes_170 (by decide) ?_
                          refine v_iload hz dX8_changes_172 rfl ?_
                          first | with_reducible refine v_imulN hz dX8_changes_174 ?_ | refine v_imul hz dX8_changes_174 ?_
                          refine v_iload hz dX8_changes_175 rfl ?_
                          first | with_reducible refine v_iaddN hz dX8_changes_177 ?_ | refine v_iadd hz dX8_changes_177 ?_
                          refine v_iload hz dX8_changes_178 rfl ?_
                          refine v_iastN hz (by assumption) (by assumption) (by omega) (by decide) dX8_changes_180 ?_
                          first | refine v_iincN hz 1 dX8_changes_181 (by decide) rfl (by decide) rfl ?_ | refine v_iinc hz dX8_changes_181 rfl (by decide) rfl ?_
                          refine v_goto hz 27 dX8_changes_184 (by decide) ?_
                          exact v_sub (ih (b + 1) _ (by omega) (by omega) (fun b2 hb2 => by rw [u2_ne hb2]; exact hC b2 hb2) (hF.put (by omega) (by omega) (by omega) (by first | exact lev_p1 c36 | exact lev_p2 c46 | exact lev_p3 c36 c46 c113 | exact lev_p4 c36 c46 c113))) ⟨rfl, rfl, rfl, rfl, rfl, rfl, rfl, trivial⟩
                        · refine v_ic (v := nI 0) hz dX8_changes_116 (by decide) ?_
                          refine v_goto hz 121 dX8_changes_117 (by decide) ?_
                          first | with_reducible refine v_iaddN hz dX8_changes_121 ?_ | refine v_iadd hz dX8_changes_121 ?_
                          refine v_istore hz dX8_changes_122 (by decide) rfl ?_
                          refine v_iload hz dX8_changes_124 rfl ?_
                          refine v_ic (v := nI 1) hz dX8_changes_126 (by decide) ?_
                          refine v_aload_n hz dX8_changes_127 rfl ?_
                          refine v_getR hz fX8_35 (by assumption) (by assumption) dX8_changes_128 ?_
                          refine v_bi (v := nI 13) hz dX8_changes_131 (by decide) ?_
                          refine v_iload hz dX8_changes_133 rfl ?_
                          refine v_ic (v := nI 1) hz dX8_changes_135 (by decide) ?_
                          refine v_isubN hz (by omega) dX8_changes_136 ?_
                          first | with_reducible refine v_imulN hz dX8_changes_137 ?_ | refine v_imul hz dX8_changes_137 ?_
                          refine v_iload hz dX8_changes_138 rfl ?_
                          first | with_reducible refine v_iaddN hz dX8_changes_140 ?_ | refine v_iadd hz dX8_changes_140 ?_
                          refine v_ialdN hz (by assumption) (by assumption) (by omega) (by decide) dX8_changes_141 ?_
                          refine v_top (y := nI (lev T1 T2 (a - 1) b)) (by exact hF (a - 1) b (by omega) (by omega) (by omega)) ?_
                          refine v_aload_n hz dX8_changes_142 rfl ?_
                          refine v_getR hz fX8_35 (by assumption) (by assumption) dX8_changes_143 ?_
                          refine v_bi (v := nI 13) hz dX8_changes_146 (by decide) ?_
                          refine v_iload hz dX8_changes_148 rfl ?_
                          first | with_reducible refine v_imulN hz dX8_changes_150 ?_ | refine v_imul hz dX8_changes_150 ?_
                          refine v_iload hz dX8_changes_151 rfl ?_
                          first | with_reducible refine v_iaddN hz dX8_changes_153 ?_ | refine v_iadd hz dX8_changes_153 ?_
                          refine v_ic (v := nI 1) hz dX8_changes_154 (by decide) ?_
                          refine v_isubN hz (by omega) dX8_changes_155 ?_
                          refine v_ialdN hz (by assumption) (by assumption) (by omega) (by decide) dX8_changes_156 ?_
                          refine v_top (y := nI (lev T1 T2 a (b - 1))) (by rw [show 13 * a + b - 1 = 13 * a + (b - 1) by omega]; exact hF a (b - 1) (by omega) (by omega) (by omega)) ?_
                          refine v_callSi hz lX8_133 (cX8_least_ok _ _ _ _ _ _ _ _) rfl rfl (Nat.le_of_ble_eq_true rfl) (by decide) ⟨Nat.zero_le _, Nat.zero_le _⟩ dX8_changes_157 (fun r I1 h157 => ?_)
                          obtain ⟨rfl, rfl⟩ := h157
                          have l1 := lev_le T1 T2 (a - 1) (b - 1)
                          have l2 := lev_le T1 T2 (a - 1) b
                          have l3 := lev_le T1 T2 a (b - 1)
                          refine v_top (nI_min (by omega) (by omega)) ?_
                          first | with_reducible refine v_iaddN hz dX8_changes_160 ?_ | refine v_iadd hz dX8_changes_160 ?_
                          refine v_callSi hz lX8_133 (cX8_least_ok _ _ _ _ _ _ _ _) rfl rfl (Nat.le_of_ble_eq_true rfl) (by decide) ⟨Nat.zero_le _, Nat.zero_le _⟩ dX8_changes_161 (fun r I1 h161 => ?_)
                          obtain ⟨rfl, rfl⟩ := h161
                          refine v_top (nI_min (by omega) (by omega)) ?_
                          refine v_istore hz dX8_changes_164 (by decide) rfl ?_
                          refine v_aload_n hz dX8_changes_166 rfl ?_
                          refine v_getR hz fX8_35 (by assumption) (by assumption) dX8_changes_167 ?_
                          refine v_bi (v := nI 13) hz dX8_changes_170 (by decide) ?_
                          refine v_iload hz dX8_changes_172 rfl ?_
                          first | with_reducible refine v_imulN hz dX8_changes_174 ?_ | refine v_imul hz dX8_changes_174 ?_
                          refine v_iload hz dX8_changes_175 rfl ?_
                          first | with_reducible refine v_iaddN hz dX8_changes_177 ?_ | refine v_iadd hz dX8_changes_177 ?_
                          refine v_iload hz dX8_changes_178 rfl ?_
                          refine v_iastN hz (by assumption) (by assumption) (by omega) (by decide) dX8_changes_180 ?_
                          first | refine v_iincN hz 1 dX8_changes_181 (by decide) rfl (by decide) rfl ?_ | refine v_iinc hz dX8_changes_181 rfl (by decide) rfl ?_
                          refine v_goto hz 27 dX8_changes_184 (by decide) ?_
                          exact v_sub (ih (b + 1) _ (by omega) (by omega) (fun b2 hb2 => by rw [u2_ne hb2]; exact hC b2 hb2) (hF.put (by omega) (by omega) (by omega) (by first | exact lev_p1 c36 | exact lev_p2 c46 | exact lev_p3 c36 c46 c113 | exact lev_p4 c36 c46 c113))) ⟨rfl, rfl, rfl, rfl, rfl, rfl, rfl, trivial⟩)))
         · first
           | (exfalso; omega)
           | (refine v_iload hz dX8_changes_49 rfl ?_
              refine v_goto hz 71 dX8_changes_51 (by decide) ?_
              refine v_istore hz dX8_changes_71 (by decide) rfl ?_
              refine v_iload hz dX8_changes_73 rfl ?_
              first | with_reducible refine v_if_leN hz 166 (by omega) dX8_changes_75 (by decide) (fun c75 => ?_) (fun c75 => ?_) | refine v_if_le hz 166 dX8_changes_75 (by decide) (fun c75 => ?_) (fun c75 => ?_)
              · first
                | (exfalso; omega)
                | (refine v_aload_n hz dX8_changes_166 rfl ?_
                   refine v_getR hz fX8_35 (by assumption) (by assumption) dX8_changes_167 ?_
                   refine v_bi (v := nI 13) hz dX8_changes_170 (by decide) ?_
                   refine v_iload hz dX8_changes_172 rfl ?_
                   first | with_reducible refine v_imulN hz dX8_changes_174 ?_ | refine v_imul hz dX8_changes_174 ?_
                   refine v_iload hz dX8_changes_175 rfl ?_
                   first | with_reducible refine v_iaddN hz dX8_changes_177 ?_ | refine v_iadd hz dX8_changes_177 ?_
                   refine v_iload hz dX8_changes_178 rfl ?_
                   refine v_iastN hz (by assumption) (by assumption) (by omega) (by decide) dX8_changes_180 ?_
                   first | refine v_iincN hz 1 dX8_changes_181 (by decide) rfl (by decide) rfl ?_ | refine v_iinc hz dX8_changes_181 rfl (by decide) rfl ?_
                   refine v_goto hz 27 dX8_changes_184 (by decide) ?_
                   exact v_sub (ih (b + 1) _ (by omega) (by omega) (fun b2 hb2 => by rw [u2_ne hb2]; exact hC b2 hb2) (hF.put (by omega) (by omega) (by omega) (by first | exact lev_p1 c36 | exact lev_p2 c46 | exact lev_p3 c36 c46 c113 | exact lev_p4 c36 c46 c113))) ⟨rfl, rfl, rfl, rfl, rfl, rfl, rfl, trivial⟩)
              · first
                | (exfalso; omega)
                | (refine v_iload hz dX8_changes_78 rfl ?_
                   first | with_reducible refine v_if_leN hz 166 (by omega) dX8_changes_80 (by decide) (fun c80 => ?_) (fun c80 => ?_) | refine v_if_le hz 166 dX8_changes_80 (by decide) (fun c80 => ?_) (fun c80 => ?_)
                   · first
                     | (exfalso; omega)
                     | (refine v_aload_n hz dX8_changes_166 rfl ?_
                        refine v_getR hz fX8_35 (by assumption) (by assumption) dX8_changes_167 ?_
                        refine v_bi (v := nI 13) hz dX8_changes_170 (by decide) ?_
                        refine v_iload hz dX8_changes_172 rfl ?_
                        first | with_reducible refine v_imulN hz dX8_changes_174 ?_ | refine v_imul hz dX8_changes_174 ?_
                        refine v_iload hz dX8_changes_175 rfl ?_
                        first | with_reducible refine v_iaddN hz dX8_changes_177 ?_ | refine v_iadd hz dX8_changes_177 ?_
                        refine v_iload hz dX8_changes_178 rfl ?_
                        refine v_iastN hz (by assumption) (by assumption) (by omega) (by decide) dX8_changes_180 ?_
                        first | refine v_iincN hz 1 dX8_changes_181 (by decide) rfl (by decide) rfl ?_ | refine v_iinc hz dX8_changes_181 rfl (by decide) rfl ?_
                        refine v_goto hz 27 dX8_changes_184 (by decide) ?_
                        exact v_sub (ih (b + 1) _ (by omega) (by omega) (fun b2 hb2 => by rw [u2_ne hb2]; exact hC b2 hb2) (hF.put (by omega) (by omega) (by omega) (by first | exact lev_p1 c36 | exact lev_p2 c46 | exact lev_p3 c36 c46 c113 | exact lev_p4 c36 c46 c113))) ⟨rfl, rfl, rfl, rfl, rfl, rfl, rfl, trivial⟩)
                   · first
                     | (exfalso; omega)
                     | (refine v_iload hz dX8_changes_83 rfl ?_
                        refine v_aload_n hz dX8_changes_85 rfl ?_
                        refine v_getR hz fX8_25 (by assumption) (by assumption) dX8_changes_86 ?_
                        refine v_bi (v := nI 12) hz dX8_changes_89 (by decide) ?_
                        refine v_iload_n hz dX8_changes_91 rfl ?_
                        first | with_reducible refine v_imulN hz dX8_changes_92 ?_ | refine v_imul hz dX8_changes_92 ?_
                        refine v_iload hz dX8_changes_93 rfl ?_
                        first | with_reducible refine v_iaddN hz dX8_changes_95 ?_ | refine v_iadd hz dX8_changes_95 ?_
                        refine v_ic (v := nI 1) hz dX8_changes_96 (by decide) ?_
                        refine v_isubN hz (by omega) dX8_changes_97 ?_
                        refine v_ialdN hz (by assumption) (by assumption) (by omega) (by decide) dX8_changes_98 ?_
                        refine v_top (y := nI (T1 (a - 1))) (by rw [e8, show 12 * q1 + a - 1 = 12 * q1 + (a - 1) by omega]; exact (ht1 (a - 1) (by omega)).1) ?_
                        refine v_aload_n hz dX8_changes_99 rfl ?_
                        refine v_getR hz fX8_25 (by assumption) (by assumption) dX8_changes_100 ?_
                        refine v_bi (v := nI 12) hz dX8_changes_103 (by decide) ?_
                        refine v_iload_n hz dX8_changes_105 rfl ?_
                        first | with_reducible refine v_imulN hz dX8_changes_106 ?_ | refine v_imul hz dX8_changes_106 ?_
                        refine v_iload hz dX8_changes_107 rfl ?_
                        first | with_reducible refine v_iaddN hz dX8_changes_109 ?_ | refine v_iadd hz dX8_changes_109 ?_
                        refine v_ic (v := nI 1) hz dX8_changes_110 (by decide) ?_
                        refine v_isubN hz (by omega) dX8_changes_111 ?_
                        refine v_ialdN hz (by assumption) (by assumption) (by omega) (by decide) dX8_changes_112 ?_
                        refine v_top (y := nI (T2 (b - 1))) (by rw [e8, show 12 * q2 + b - 1 = 12 * q2 + (b - 1) by omega]; exact (ht2 (b - 1) (by omega)).1) ?_
                        have b1 := (ht1 (a - 1) (by omega)).2
                        have b2 := (ht2 (b - 1) (by omega)).2
                        first | with_reducible refine v_icmp_neN hz 120 (by omega) (by omega) dX8_changes_113 (by decide) (fun c113 => ?_) (fun c113 => ?_) | refine v_icmp_ne hz 120 dX8_changes_113 (by decide) (fun c113 => ?_) (fun c113 => ?_)
                        · refine v_ic (v := nI 1) hz dX8_changes_120 (by decide) ?_
                          first | with_reducible refine v_iaddN hz dX8_changes_121 ?_ | refine v_iadd hz dX8_changes_121 ?_
                          refine v_istore hz dX8_changes_122 (by decide) rfl ?_
                          refine v_iload hz dX8_changes_124 rfl ?_
                          refine v_ic (v := nI 1) hz dX8_changes_126 (by decide) ?_
                          refine v_aload_n hz dX8_changes_127 rfl ?_
                          refine v_getR hz fX8_35 (by assumption) (by assumption) dX8_changes_128 ?_
                          refine v_bi (v := nI 13) hz dX8_changes_131 (by decide) ?_
                          refine v_iload hz dX8_changes_133 rfl ?_
                          refine v_ic (v := nI 1) hz dX8_changes_135 (by decide) ?_
                          refine v_isubN hz (by omega) dX8_changes_136 ?_
                          first | with_reducible refine v_imulN hz dX8_changes_137 ?_ | refine v_imul hz dX8_changes_137 ?_
                          refine v_iload hz dX8_changes_138 rfl ?_
                          first | with_reducible refine v_iaddN hz dX8_changes_140 ?_ | refine v_iadd hz dX8_changes_140 ?_
                          refine v_ialdN hz (by assumption) (by assumption) (by omega) (by decide) dX8_changes_141 ?_
                          refine v_top (y := nI (lev T1 T2 (a - 1) b)) (by exact hF (a - 1) b (by omega) (by omega) (by omega)) ?_
                          refine v_aload_n hz dX8_changes_142 rfl ?_
                          refine v_getR hz fX8_35 (by assumption) (by assumption) dX8_changes_143 ?_
                          refine v_bi (v := nI 13) hz dX8_changes_146 (by decide) ?_
                          refine v_iload hz dX8_changes_148 rfl ?_
                          first | with_reducible refine v_imulN hz dX8_changes_150 ?_ | refine v_imul hz dX8_changes_150 ?_
                          refine v_iload hz dX8_changes_151 rfl ?_
                          first | with_reducible refine v_iaddN hz dX8_changes_153 ?_ | refine v_iadd hz dX8_changes_153 ?_
                          refine v_ic (v := nI 1) hz dX8_changes_154 (by decide) ?_
                          refine v_isubN hz (by omega) dX8_changes_155 ?_
                          refine v_ialdN hz (by assumption) (by assumption) (by omega) (by decide) dX8_changes_156 ?_
                          refine v_top (y := nI (lev T1 T2 a (b - 1))) (by rw [show 13 * a + b - 1 = 13 * a + (b - 1) by omega]; exact hF a (b - 1) (by omega) (by omega) (by omega)) ?_
                          refine v_callSi hz lX8_133 (cX8_least_ok _ _ _ _ _ _ _ _) rfl rfl (Nat.le_of_ble_eq_true rfl) (by decide) ⟨Nat.zero_le _, Nat.zero_le _⟩ dX8_changes_157 (fun r I1 h157 => ?_)
                          obtain ⟨rfl, rfl⟩ := h157
                          have l1 := lev_le T1 T2 (a - 1) (b - 1)
                          have l2 := lev_le T1 T2 (a - 1) b
                          have l3 := lev_le T1 T2 a (b - 1)
                          refine v_top (nI_min (by omega) (by omega)) ?_
                          first | with_reducible refine v_iaddN hz dX8_changes_160 ?_ | refine v_iadd hz dX8_changes_160 ?_
                          refine v_callSi hz lX8_133 (cX8_least_ok _ _ _ _ _ _ _ _) rfl rfl (Nat.le_of_ble_eq_true rfl) (by decide) ⟨Nat.zero_le _, Nat.zero_le _⟩ dX8_changes_161 (fun r I1 h161 => ?_)
                          obtain ⟨rfl, rfl⟩ := h161
                          refine v_top (nI_min (by omega) (by omega)) ?_
                          refine v_istore hz dX8_changes_164 (by decide) rfl ?_
                          refine v_aload_n hz dX8_changes_166 rfl ?_
                          refine v_getR hz fX8_35 (by assumption) (by assumption) dX8_changes_167 ?_
                          refine v_bi (v := nI 13) hz dX8_changes_170 (by decide) ?_
                          refine v_iload hz dX8_changes_172 rfl ?_
                          first | with_reducible refine v_imulN hz dX8_changes_174 ?_ | refine v_imul hz dX8_changes_174 ?_
                          refine v_iload hz dX8_changes_175 rfl ?_
                          first | with_reducible refine v_iaddN hz dX8_changes_177 ?_ | refine v_iadd hz dX8_changes_177 ?_
                          refine v_iload hz dX8_changes_178 rfl ?_
                          refine v_iastN hz (by assumption) (by assumption) (by omega) (by decide) dX8_changes_180 ?_
                          first | refine v_iincN hz 1 dX8_changes_181 (by decide) rfl (by decide) rfl ?_ | refine v_iinc hz dX8_changes_181 rfl (by decide) rfl ?_
                          refine v_goto hz 27 dX8_changes_184 (by decide) ?_
                          exact v_sub (ih (b + 1) _ (by omega) (by omega) (fun b2 hb2 => by rw [u2_ne hb2]; exact hC b2 hb2) (hF.put (by omega) (by omega) (by omega) (by first | exact lev_p1 c36 | exact lev_p2 c46 | exact lev_p3 c36 c46 c113 | exact lev_p4 c36 c46 c113))) ⟨rfl, rfl, rfl, rfl, rfl, rfl, rfl, trivial⟩
                        · refine v_ic (v := nI 0) hz dX8_changes_116 (by decide) ?_
                          refine v_goto hz 121 dX8_changes_117 (by decide) ?_
                          first | with_reducible refine v_iaddN hz dX8_changes_121 ?_ | refine v_iadd hz dX8_changes_121 ?_
                          refine v_istore hz dX8_changes_122 (by decide) rfl ?_
                          refine v_iload hz dX8_changes_124 rfl ?_
                          refine v_ic (v := nI 1) hz dX8_changes_126 (by decide) ?_
                          refine v_aload_n hz dX8_changes_127 rfl ?_
                          refine v_getR hz fX8_35 (by assumption) (by assumption) dX8_changes_128 ?_
                          refine v_bi (v := nI 13) hz dX8_changes_131 (by decide) ?_
                          refine v_iload hz dX8_changes_133 rfl ?_
                          refine v_ic (v := nI 1) hz dX8_changes_135 (by decide) ?_
                          refine v_isubN hz (by omega) dX8_changes_136 ?_
                          first | with_reducible refine v_imulN hz dX8_changes_137 ?_ | refine v_imul hz dX8_changes_137 ?_
                          refine v_iload hz dX8_changes_138 rfl ?_
                          first | with_reducible refine v_iaddN hz dX8_changes_140 ?_ | refine v_iadd hz dX8_changes_140 ?_
                          refine v_ialdN hz (by assumption) (by assumption) (by omega) (by decide) dX8_changes_141 ?_
                          refine v_top (y := nI (lev T1 T2 (a - 1) b)) (by exact hF (a - 1) b (by omega) (by omega) (by omega)) ?_
                          refine v_aload_n hz dX8_changes_142 rfl ?_
                          refine v_getR hz fX8_35 (by assumption) (by assumption) dX8_changes_143 ?_
                          refine v_bi (v := nI 13) hz dX8_changes_146 (by decide) ?_
                          refine v_iload hz dX8_changes_148 rfl ?_
                          first | with_reducible refine v_imulN hz dX8_changes_150 ?_ | refine v_imul hz dX8_changes_150 ?_
                          refine v_iload hz dX8_changes_151 rfl ?_
                          first | with_reducible refine v_iaddN hz dX8_changes_153 ?_ | refine v_iadd hz dX8_changes_153 ?_
                          refine v_ic (v := nI 1) hz dX8_changes_154 (by decide) ?_
                          refine v_isubN hz (by omega) dX8_changes_155 ?_
                          refine v_ialdN hz (by assumption) (by assumption) (by omega) (by decide) dX8_changes_156 ?_
                          refine v_top (y := nI (lev T1 T2 a (b - 1))) (by rw [show 13 * a + b - 1 = 13 * a + (b - 1) by omega]; exact hF a (b - 1) (by omega) (by omega) (by omega)) ?_
                          refine v_callSi hz lX8_133 (cX8_least_ok _ _ _ _ _ _ _ _) rfl rfl (Nat.le_of_ble_eq_true rfl) (by decide) ⟨Nat.zero_le _, Nat.zero_le _⟩ dX8_changes_157 (fun r I1 h157 => ?_)
                          obtain ⟨rfl, rfl⟩ := h157
                          have l1 := lev_le T1 T2 (a - 1) (b - 1)
                          have l2 := lev_le T1 T2 (a - 1) b
                          have l3 := lev_le T1 T2 a (b - 1)
                          refine v_top (nI_min (by omega) (by omega)) ?_
                          first | with_reducible refine v_iaddN hz dX8_changes_160 ?_ | refine v_iadd hz dX8_changes_160 ?_
                          refine v_callSi hz lX8_133 (cX8_least_ok _ _ _ _ _ _ _ _) rfl rfl (Nat.le_of_ble_eq_true rfl) (by decide) ⟨Nat.zero_le _, Nat.zero_le _⟩ dX8_changes_161 (fun r I1 h161 => ?_)
                          obtain ⟨rfl, rfl⟩ := h161
                          refine v_top (nI_min (by omega) (by omega)) ?_
                          refine v_istore hz dX8_changes_164 (by decide) rfl ?_
                          refine v_aload_n hz dX8_changes_166 rfl ?_
                          refine v_getR hz fX8_35 (by assumption) (by assumption) dX8_changes_167 ?_
                          refine v_bi (v := nI 13) hz dX8_changes_170 (by decide) ?_
                          refine v_iload hz dX8_changes_172 rfl ?_
                          first | with_reducible refine v_imulN hz dX8_changes_174 ?_ | refine v_imul hz dX8_changes_174 ?_
                          refine v_iload hz dX8_changes_175 rfl ?_
                          first | with_reducible refine v_iaddN hz dX8_changes_177 ?_ | refine v_iadd hz dX8_changes_177 ?_
                          refine v_iload hz dX8_changes_178 rfl ?_
                          refine v_iastN hz (by assumption) (by assumption) (by omega) (by decide) dX8_changes_180 ?_
                          first | refine v_iincN hz 1 dX8_changes_181 (by decide) rfl (by decide) rfl ?_ | refine v_iinc hz dX8_changes_181 rfl (by decide) rfl ?_
                          refine v_goto hz 27 dX8_changes_184 (by decide) ?_
                          exact v_sub (ih (b + 1) _ (by omega) (by omega) (fun b2 hb2 => by rw [u2_ne hb2]; exact hC b2 hb2) (hF.put (by omega) (by omega) (by omega) (by first | exact lev_p1 c36 | exact lev_p2 c46 | exact lev_p3 c36 c46 c113 | exact lev_p4 c36 c46 c113))) ⟨rfl, rfl, rfl, rfl, rfl, rfl, rfl, trivial⟩))))
    · first
      | (exfalso; omega)
      | (refine v_iload hz dX8_changes_39 rfl ?_
         refine v_goto hz 71 dX8_changes_41 (by decide) ?_
         refine v_istore hz dX8_changes_71 (by decide) rfl ?_
         refine v_iload hz dX8_changes_73 rfl ?_
         first | with_reducible refine v_if_leN hz 166 (by omega) dX8_changes_75 (by decide) (fun c75 => ?_) (fun c75 => ?_) | refine v_if_le hz 166 dX8_changes_75 (by decide) (fun c75 => ?_) (fun c75 => ?_)
         · first
           | (exfalso; omega)
           | (refine v_aload_n hz dX8_changes_166 rfl ?_
              refine v_getR hz fX8_35 (by assumption) (by assumption) dX8_changes_167 ?_
              refine v_bi (v := nI 13) hz dX8_changes_170 (by decide) ?_
              refine v_iload hz dX8_changes_172 rfl ?_
              first | with_reducible refine v_imulN hz dX8_changes_174 ?_ | refine v_imul hz dX8_changes_174 ?_
              refine v_iload hz dX8_changes_175 rfl ?_
              first | with_reducible refine v_iaddN hz dX8_changes_177 ?_ | refine v_iadd hz dX8_changes_177 ?_
              refine v_iload hz dX8_changes_178 rfl ?_
              refine v_iastN hz (by assumption) (by assumption) (by omega) (by decide) dX8_changes_180 ?_
              first | refine v_iincN hz 1 dX8_changes_181 (by decide) rfl (by decide) rfl ?_ | refine v_iinc hz dX8_changes_181 rfl (by decide) rfl ?_
              refine v_goto hz 27 dX8_changes_184 (by decide) ?_
              exact v_sub (ih (b + 1) _ (by omega) (by omega) (fun b2 hb2 => by rw [u2_ne hb2]; exact hC b2 hb2) (hF.put (by omega) (by omega) (by omega) (by first | exact lev_p1 c36 | exact lev_p2 c46 | exact lev_p3 c36 c46 c113 | exact lev_p4 c36 c46 c113))) ⟨rfl, rfl, rfl, rfl, rfl, rfl, rfl, trivial⟩)
         · first
           | (exfalso; omega)
           | (refine v_iload hz dX8_changes_78 rfl ?_
              first | with_reducible refine v_if_leN hz 166 (by omega) dX8_changes_80 (by decide) (fun c80 => ?_) (fun c80 => ?_) | refine v_if_le hz 166 dX8_changes_80 (by decide) (fun c80 => ?_) (fun c80 => ?_)
              · first
                | (exfalso; omega)
                | (refine v_aload_n hz dX8_changes_166 rfl ?_
                   refine v_getR hz fX8_35 (by assumption) (by assumption) dX8_changes_167 ?_
                   refine v_bi (v := nI 13) hz dX8_changes_170 (by decide) ?_
                   refine v_iload hz dX8_changes_172 rfl ?_
                   first | with_reducible refine v_imulN hz dX8_changes_174 ?_ | refine v_imul hz dX8_changes_174 ?_
                   refine v_iload hz dX8_changes_175 rfl ?_
                   first | with_reducible refine v_iaddN hz dX8_changes_177 ?_ | refine v_iadd hz dX8_changes_177 ?_
                   refine v_iload hz dX8_changes_178 rfl ?_
                   refine v_iastN hz (by assumption) (by assumption) (by omega) (by decide) dX8_changes_180 ?_
                   first | refine v_iincN hz 1 dX8_changes_181 (by decide) rfl (by decide) rfl ?_ | refine v_iinc hz dX8_changes_181 rfl (by decide) rfl ?_
                   refine v_goto hz 27 dX8_changes_184 (by decide) ?_
                   exact v_sub (ih (b + 1) _ (by omega) (by omega) (fun b2 hb2 => by rw [u2_ne hb2]; exact hC b2 hb2) (hF.put (by omega) (by omega) (by omega) (by first | exact lev_p1 c36 | exact lev_p2 c46 | exact lev_p3 c36 c46 c113 | exact lev_p4 c36 c46 c113))) ⟨rfl, rfl, rfl, rfl, rfl, rfl, rfl, trivial⟩)
              · first
                | (exfalso; omega)
                | (refine v_iload hz dX8_changes_83 rfl ?_
                   refine v_aload_n hz dX8_changes_85 rfl ?_
                   refine v_getR hz fX8_25 (by assumption) (by assumption) dX8_changes_86 ?_
                   refine v_bi (v := nI 12) hz dX8_changes_89 (by decide) ?_
                   refine v_iload_n hz dX8_changes_91 rfl ?_
                   first | with_reducible refine v_imulN hz dX8_changes_92 ?_ | refine v_imul hz dX8_changes_92 ?_
                   refine v_iload hz dX8_changes_93 rfl ?_
                   first | with_reducible refine v_iaddN hz dX8_changes_95 ?_ | refine v_iadd hz dX8_changes_95 ?_
                   refine v_ic (v := nI 1) hz dX8_changes_96 (by decide) ?_
                   refine v_isubN hz (by omega) dX8_changes_97 ?_
                   refine v_ialdN hz (by assumption) (by assumption) (by omega) (by decide) dX8_changes_98 ?_
                   refine v_top (y := nI (T1 (a - 1))) (by rw [e8, show 12 * q1 + a - 1 = 12 * q1 + (a - 1) by omega]; exact (ht1 (a - 1) (by omega)).1) ?_
                   refine v_aload_n hz dX8_changes_99 rfl ?_
                   refine v_getR hz fX8_25 (by assumption) (by assumption) dX8_changes_100 ?_
                   refine v_bi (v := nI 12) hz dX8_changes_103 (by decide) ?_
                   refine v_iload_n hz dX8_changes_105 rfl ?_
                   first | with_reducible refine v_imulN hz dX8_changes_106 ?_ | refine v_imul hz dX8_changes_106 ?_
                   refine v_iload hz dX8_changes_107 rfl ?_
                   first | with_reducible refine v_iaddN hz dX8_changes_109 ?_ | refine v_iadd hz dX8_changes_109 ?_
                   refine v_ic (v := nI 1) hz dX8_changes_110 (by decide) ?_
                   refine v_isubN hz (by omega) dX8_changes_111 ?_
                   refine v_ialdN hz (by assumption) (by assumption) (by omega) (by decide) dX8_changes_112 ?_
                   refine v_top (y := nI (T2 (b - 1))) (by rw [e8, show 12 * q2 + b - 1 = 12 * q2 + (b - 1) by omega]; exact (ht2 (b - 1) (by omega)).1) ?_
                   have b1 := (ht1 (a - 1) (by omega)).2
                   have b2 := (ht2 (b - 1) (by omega)).2
                   first | with_reducible refine v_icmp_neN hz 120 (by omega) (by omega) dX8_changes_113 (by decide) (fun c113 => ?_) (fun c113 => ?_) | refine v_icmp_ne hz 120 dX8_changes_113 (by decide) (fun c113 => ?_) (fun c113 => ?_)
                   · refine v_ic (v := nI 1) hz dX8_changes_120 (by decide) ?_
                     first | with_reducible refine v_iaddN hz dX8_changes_121 ?_ | refine v_iadd hz dX8_changes_121 ?_
                     refine v_istore hz dX8_changes_122 (by decide) rfl ?_
                     refine v_iload hz dX8_changes_124 rfl ?_
                     refine v_ic (v := nI 1) hz dX8_changes_126 (by decide) ?_
                     refine v_aload_n hz dX8_changes_127 rfl ?_
                     refine v_getR hz fX8_35 (by assumption) (by assumption) dX8_changes_128 ?_
                     refine v_bi (v := nI 13) hz dX8_changes_131 (by decide) ?_
                     refine v_iload hz dX8_changes_133 rfl ?_
                     refine v_ic (v := nI 1) hz dX8_changes_135 (by decide) ?_
                     refine v_isubN hz (by omega) dX8_changes_136 ?_
                     first | with_reducible refine v_imulN hz dX8_changes_137 ?_ | refine v_imul hz dX8_changes_137 ?_
                     refine v_iload hz dX8_changes_138 rfl ?_
                     first | with_reducible refine v_iaddN hz dX8_changes_140 ?_ | refine v_iadd hz dX8_changes_140 ?_
                     refine v_ialdN hz (by assumption) (by assumption) (by omega) (by decide) dX8_changes_141 ?_
                     refine v_top (y := nI (lev T1 T2 (a - 1) b)) (by exact hF (a - 1) b (by omega) (by omega) (by omega)) ?_
                     refine v_aload_n hz dX8_changes_142 rfl ?_
                     refine v_getR hz fX8_35 (by assumption) (by assumption) dX8_changes_143 ?_
                     refine v_bi (v := nI 13) hz dX8_changes_146 (by decide) ?_
                     refine v_iload hz dX8_changes_148 rfl ?_
                     first | with_reducible refine v_imulN hz dX8_changes_150 ?_ | refine v_imul hz dX8_changes_150 ?_
                     refine v_iload hz dX8_changes_151 rfl ?_
                     first | with_reducible refine v_iaddN hz dX8_changes_153 ?_ | refine v_iadd hz dX8_changes_153 ?_
                     refine v_ic (v := nI 1) hz dX8_changes_154 (by decide) ?_
                     refine v_isubN hz (by omega) dX8_changes_155 ?_
                     refine v_ialdN hz (by assumption) (by assumption) (by omega) (by decide) dX8_changes_156 ?_
                     refine v_top (y := nI (lev T1 T2 a (b - 1))) (by rw [show 13 * a + b - 1 = 13 * a + (b - 1) by omega]; exact hF a (b - 1) (by omega) (by omega) (by omega)) ?_
                     refine v_callSi hz lX8_133 (cX8_least_ok _ _ _ _ _ _ _ _) rfl rfl (Nat.le_of_ble_eq_true rfl) (by decide) ⟨Nat.zero_le _, Nat.zero_le _⟩ dX8_changes_157 (fun r I1 h157 => ?_)
                     obtain ⟨rfl, rfl⟩ := h157
                     have l1 := lev_le T1 T2 (a - 1) (b - 1)
                     have l2 := lev_le T1 T2 (a - 1) b
                     have l3 := lev_le T1 T2 a (b - 1)
                     refine v_top (nI_min (by omega) (by omega)) ?_
                     first | with_reducible refine v_iaddN hz dX8_changes_160 ?_ | refine v_iadd hz dX8_changes_160 ?_
                     refine v_callSi hz lX8_133 (cX8_least_ok _ _ _ _ _ _ _ _) rfl rfl (Nat.le_of_ble_eq_true rfl) (by decide) ⟨Nat.zero_le _, Nat.zero_le _⟩ dX8_changes_161 (fun r I1 h161 => ?_)
                     obtain ⟨rfl, rfl⟩ := h161
                     refine v_top (nI_min (by omega) (by omega)) ?_
                     refine v_istore hz dX8_changes_164 (by decide) rfl ?_
                     refine v_aload_n hz dX8_changes_166 rfl ?_
                     refine v_getR hz fX8_35 (by assumption) (by assumption) dX8_changes_167 ?_
                     refine v_bi (v := nI 13) hz dX8_changes_170 (by decide) ?_
                     refine v_iload hz dX8_changes_172 rfl ?_
                     first | with_reducible refine v_imulN hz dX8_changes_174 ?_ | refine v_imul hz dX8_changes_174 ?_
                     refine v_iload hz dX8_changes_175 rfl ?_
                     first | with_reducible refine v_iaddN hz dX8_changes_177 ?_ | refine v_iadd hz dX8_changes_177 ?_
                     refine v_iload hz dX8_changes_178 rfl ?_
                     refine v_iastN hz (by assumption) (by assumption) (by omega) (by decide) dX8_changes_180 ?_
                     first | refine v_iincN hz 1 dX8_changes_181 (by decide) rfl (by decide) rfl ?_ | refine v_iinc hz dX8_changes_181 rfl (by decide) rfl ?_
                     refine v_goto hz 27 dX8_changes_184 (by decide) ?_
                     exact v_sub (ih (b + 1) _ (by omega) (by omega) (fun b2 hb2 => by rw [u2_ne hb2]; exact hC b2 hb2) (hF.put (by omega) (by omega) (by omega) (by first | exact lev_p1 c36 | exact lev_p2 c46 | exact lev_p3 c36 c46 c113 | exact lev_p4 c36 c46 c113))) ⟨rfl, rfl, rfl, rfl, rfl, rfl, rfl, trivial⟩
                   · refine v_ic (v := nI 0) hz dX8_changes_116 (by decide) ?_
                     refine v_goto hz 121 dX8_changes_117 (by decide) ?_
                     first | with_reducible refine v_iaddN hz dX8_changes_121 ?_ | refine v_iadd hz dX8_changes_121 ?_
                     refine v_istore hz dX8_changes_122 (by decide) rfl ?_
                     refine v_iload hz dX8_changes_124 rfl ?_
                     refine v_ic (v := nI 1) hz dX8_changes_126 (by decide) ?_
                     refine v_aload_n hz dX8_changes_127 rfl ?_
                     refine v_getR hz fX8_35 (by assumption) (by assumption) dX8_changes_128 ?_
                     refine v_bi (v := nI 13) hz dX8_changes_131 (by decide) ?_
                     refine v_iload hz dX8_changes_133 rfl ?_
                     refine v_ic (v := nI 1) hz dX8_changes_135 (by decide) ?_
                     refine v_isubN hz (by omega) dX8_changes_136 ?_
                     first | with_reducible refine v_imulN hz dX8_changes_137 ?_ | refine v_imul hz dX8_changes_137 ?_
                     refine v_iload hz dX8_changes_138 rfl ?_
                     first | with_reducible refine v_iaddN hz dX8_changes_140 ?_ | refine v_iadd hz dX8_changes_140 ?_
                     refine v_ialdN hz (by assumption) (by assumption) (by omega) (by decide) dX8_changes_141 ?_
                     refine v_top (y := nI (lev T1 T2 (a - 1) b)) (by exact hF (a - 1) b (by omega) (by omega) (by omega)) ?_
                     refine v_aload_n hz dX8_changes_142 rfl ?_
                     refine v_getR hz fX8_35 (by assumption) (by assumption) dX8_changes_143 ?_
                     refine v_bi (v := nI 13) hz dX8_changes_146 (by decide) ?_
                     refine v_iload hz dX8_changes_148 rfl ?_
                     first | with_reducible refine v_imulN hz dX8_changes_150 ?_ | refine v_imul hz dX8_changes_150 ?_
                     refine v_iload hz dX8_changes_151 rfl ?_
                     first | with_reducible refine v_iaddN hz dX8_changes_153 ?_ | refine v_iadd hz dX8_changes_153 ?_
                     refine v_ic (v := nI 1) hz dX8_changes_154 (by decide) ?_
                     refine v_isubN hz (by omega) dX8_changes_155 ?_
                     refine v_ialdN hz (by assumption) (by assumption) (by omega) (by decide) dX8_changes_156 ?_
                     refine v_top (y := nI (lev T1 T2 a (b - 1))) (by rw [show 13 * a + b - 1 = 13 * a + (b - 1) by omega]; exact hF a (b - 1) (by omega) (by omega) (by omega)) ?_
                     refine v_callSi hz lX8_133 (cX8_least_ok _ _ _ _ _ _ _ _) rfl rfl (Nat.le_of_ble_eq_true rfl) (by decide) ⟨Nat.zero_le _, Nat.zero_le _⟩ dX8_changes_157 (fun r I1 h157 => ?_)
                     obtain ⟨rfl, rfl⟩ := h157
                     have l1 := lev_le T1 T2 (a - 1) (b - 1)
                     have l2 := lev_le T1 T2 (a - 1) b
                     have l3 := lev_le T1 T2 a (b - 1)
                     refine v_top (nI_min (by omega) (by omega)) ?_
                     first | with_reducible refine v_iaddN hz dX8_changes_160 ?_ | refine v_iadd hz dX8_changes_160 ?_
                     refine v_callSi hz lX8_133 (cX8_least_ok _ _ _ _ _ _ _ _) rfl rfl (Nat.le_of_ble_eq_true rfl) (by decide) ⟨Nat.zero_le _, Nat.zero_le _⟩ dX8_changes_161 (fun r I1 h161 => ?_)
                     obtain ⟨rfl, rfl⟩ := h161
                     refine v_top (nI_min (by omega) (by omega)) ?_
                     refine v_istore hz dX8_changes_164 (by decide) rfl ?_
                     refine v_aload_n hz dX8_changes_166 rfl ?_
                     refine v_getR hz fX8_35 (by assumption) (by assumption) dX8_changes_167 ?_
                     refine v_bi (v := nI 13) hz dX8_changes_170 (by decide) ?_
                     refine v_iload hz dX8_changes_172 rfl ?_
                     first | with_reducible refine v_imulN hz dX8_changes_174 ?_ | refine v_imul hz dX8_changes_174 ?_
                     refine v_iload hz dX8_changes_175 rfl ?_
                     first | with_reducible refine v_iaddN hz dX8_changes_177 ?_ | refine v_iadd hz dX8_changes_177 ?_
                     refine v_iload hz dX8_changes_178 rfl ?_
                     refine v_iastN hz (by assumption) (by assumption) (by omega) (by decide) dX8_changes_180 ?_
                     first | refine v_iincN hz 1 dX8_changes_181 (by decide) rfl (by decide) rfl ?_ | refine v_iinc hz dX8_changes_181 rfl (by decide) rfl ?_
                     refine v_goto hz 27 dX8_changes_184 (by decide) ?_
                     exact v_sub (ih (b + 1) _ (by omega) (by omega) (fun b2 hb2 => by rw [u2_ne hb2]; exact hC b2 hb2) (hF.put (by omega) (by omega) (by omega) (by first | exact lev_p1 c36 | exact lev_p2 c46 | exact lev_p3 c36 c46 c113 | exact lev_p4 c36 c46 c113))) ⟨rfl, rfl, rfl, rfl, rfl, rfl, rfl, trivial⟩)))
set_option maxHeartbeats 4000000 in
set_option maxRecDepth 100000 in
theorem lp_changes_out {z : Zz} {κ : Kz} {R : Rz} {J : Jz} {A : Nat → Nat} (hz : Am z cX8_changes RX8 8 1) (hm : LM κ R A) {I0 : Iz} {q1 q2 L1 L2 : Nat} {T1 T2 : Nat → Nat} (h1 : msn I0 A q1 L1 T1) (h2 : msn I0 A q2 L2 T2) (K : ∀ I1, (∀ b, b ≠ A 145 → I1 b = I0 b) → levF I1 A T1 T2 L1 L2 (L1 + 1) 0 → V z 8 0 0 193 [(0, .ref (A 130)), (1, .int (nI q1)), (2, .int (nI q2)), (3, .int (nI L1)), (4, .int (nI L2))] [] κ I1 R J) :
    ∀ (n a : Nat) (I : Iz), a ≤ L1 + 1 → L1 + 2 ≤ a + n → (∀ b, b ≠ A 145 → I b = I0 b) → levF I A T1 T2 L1 L2 a 0 → V z 8 0 0 18 [(0, .ref (A 130)), (1, .int (nI q1)), (2, .int (nI q2)), (3, .int (nI L1)), (4, .int (nI L2)), (5, .int (nI a))] [] κ I R J := by
  have hL1 := h1.2.1
  have hL2 := h2.2.1
  intro n
  induction n with
  | zero => intro a I ha hn; exact absurd hn (by omega)
  | succ n ih =>
  intro a I ha hn hC hF
  refine v_iload hz dX8_changes_18 rfl ?_
  refine v_iload_n hz dX8_changes_20 rfl ?_
  first | with_reducible refine v_icmp_gtN hz 193 (by omega) (by omega) dX8_changes_21 (by decide) (fun c21 => ?_) (fun c21 => ?_) | refine v_icmp_gt hz 193 dX8_changes_21 (by decide) (fun c21 => ?_) (fun c21 => ?_)
  · exact v_sub (K I hC (by intro a2 b2 g1 g2 g3; exact hF a2 b2 g1 g2 (by omega))) ⟨rfl, rfl, rfl, rfl, rfl, trivial⟩
  · refine v_ic (v := nI 0) hz dX8_changes_24 (by decide) ?_
    refine v_istore hz dX8_changes_25 (by decide) rfl ?_
    refine v_sub (lp_changes_in hz hm h1 h2 a (by omega) (fun I1 hC1 hF1 => ?_) (L2 + 2) 0 I (by omega) (by omega) hC hF) ⟨rfl, rfl, rfl, rfl, rfl, rfl, rfl, trivial⟩
    refine v_iincN hz 1 dX8_changes_187 (by decide) rfl (by decide) rfl ?_
    refine v_goto hz 18 dX8_changes_190 (by decide) ?_
    exact v_sub (ih (a + 1) I1 (by omega) (by omega) hC1 (by intro a2 b2 g1 g2 g3; exact hF1 a2 b2 g1 g2 (by omega))) ⟨rfl, rfl, rfl, rfl, rfl, rfl, trivial⟩
set_option maxHeartbeats 4000000 in
set_option maxRecDepth 100000 in
theorem cX8_changes_ok (l : Launch) (g : Gz) (κ : Kz) (I : Iz) (R : Rz) (J : Jz) (A : Nat → Nat) (hm : LM κ R A) (q1 q2 L1 L2 : Nat) (T1 T2 : Nat → Nat) (h1 : msn I A q1 L1 T1) (h2 : msn I A q2 L2 T2) :
    Ct l mX8_changes 0 0 g [.ref (A 130), .int (nI q1), .int (nI q2)] κ I R J (Si κ R J (fun r I1 => r = nI (lev T1 T2 L1 L2) ∧ ∀ b, b ≠ A 145 → I1 b = I b)) := by
  refine ct_of (by decide) (Nat.le_of_ble_eq_true rfl) ?_
  intro z hz hr hrc hrs
  have hz : Am z cX8_changes RX8 8 1 := hz
  have hr : Rt z yX8_changes (some .int) 0 0 _ := hr
  show V z 8 0 0 0 [(0, .ref (A 130)), (1, .int (nI q1)), (2, .int (nI q2))] [] κ I R J
  have hk := hm.k
  have ho := hm.o
  have hR6 := hm.r6
  have hK6 := hm.k6
  have hN6 := hm.n6
  have hO6 := hm.o6
  have hR8 := hm.r8
  have hK8 := hm.k8
  have hN8 := hm.n8
  have hO8 := hm.o8
  have hR15 := hm.r15
  have hK15 := hm.k15
  have hN15 := hm.n15
  have hO15 := hm.o15
  have hq1 := h1.1
  have hq2 := h2.1
  have hL1 := h1.2.1
  have hL2 := h2.2.1
  refine v_aload_n hz dX8_changes_0 rfl ?_
  refine v_getR hz fX8_19 (by assumption) (by assumption) dX8_changes_1 ?_
  refine v_iload_n hz dX8_changes_4 rfl ?_
  refine v_ialdN hz (by assumption) (by assumption) (by omega) (by decide) dX8_changes_5 ?_
  refine v_top h1.2.2.1 ?_
  refine v_istore_n hz dX8_changes_6 (by decide) rfl ?_
  refine v_aload_n hz dX8_changes_7 rfl ?_
  refine v_getR hz fX8_19 (by assumption) (by assumption) dX8_changes_8 ?_
  refine v_iload_n hz dX8_changes_11 rfl ?_
  refine v_ialdN hz (by assumption) (by assumption) (by omega) (by decide) dX8_changes_12 ?_
  refine v_top h2.2.2.1 ?_
  refine v_istore hz dX8_changes_13 (by decide) rfl ?_
  refine v_ic (v := nI 0) hz dX8_changes_15 (by decide) ?_
  refine v_istore hz dX8_changes_16 (by decide) rfl ?_
  refine v_sub (lp_changes_out hz hm h1 h2 (fun I1 hC1 hF1 => ?_) (L1 + 2) 0 I (by omega) (by omega) (fun _ _ => rfl) (by intro a2 b2 g1 g2 g3; exact absurd g3 (by omega))) ⟨rfl, rfl, rfl, rfl, rfl, rfl, trivial⟩
  refine v_aload_n hz dX8_changes_193 rfl ?_
  refine v_getR hz fX8_35 (by assumption) (by assumption) dX8_changes_194 ?_
  refine v_bi (v := nI 13) hz dX8_changes_197 (by decide) ?_
  refine v_iload_n hz dX8_changes_199 rfl ?_
  first | with_reducible refine v_imulN hz dX8_changes_200 ?_ | refine v_imul hz dX8_changes_200 ?_
  refine v_iload hz dX8_changes_201 rfl ?_
  first | with_reducible refine v_iaddN hz dX8_changes_203 ?_ | refine v_iadd hz dX8_changes_203 ?_
  refine v_ialdN hz (by assumption) (by assumption) (by omega) (by decide) dX8_changes_204 ?_
  refine v_top (hF1 L1 L2 (by omega) (by omega) (by omega)) ?_
  exact v_iret hz hr dX8_changes_205 ⟨rfl, hC1⟩
