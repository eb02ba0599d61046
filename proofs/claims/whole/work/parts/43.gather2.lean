/-! ===== the class: the findings are gathered ===== -/
/-- matches and ranks of the first i: M who is one, s scores, t tags' steps -/
def rkk (M : Nat → Bool) (s t : Nat → Nat) : Nat → Nat × (Nat → Nat)
  | 0 => (0, fun _ => 0)
  | i + 1 => if M i then ((rkk M s t i).1 + 1, ins (rkk M s t i).2 (rin s t (rkk M s t i).2 i (rkk M s t i).1) i) else rkk M s t i
def cvk (w : Nat) (S : Nat → Sg) (T : Sg) (ns : Nat → Nat) (M : Nat → Bool) : Nat → Nat → Bool
  | 0 => fun _ => false
  | i + 1 => if M i then cvs w (S i) T (cvk w S T ns M i) (ns i) else cvk w S T ns M i
theorem rkk_le (M : Nat → Bool) (s t : Nat → Nat) : ∀ i, (rkk M s t i).1 ≤ i
  | 0 => Nat.le_refl _
  | i + 1 => by
    have := rkk_le M s t i
    unfold rkk
    split
    · show (rkk M s t i).1 + 1 ≤ i + 1; omega
    · omega
theorem ins_lt {r : Nat → Nat} {a x m N : Nat} (h : ∀ j, j < m → r j < N) (hx : x < N) (ha : a ≤ m) : ∀ j, j < m + 1 → ins r a x j < N := by
  intro j hj
  unfold ins
  by_cases q1 : j < a
  · rw [if_pos q1]; exact h j (by omega)
  · rw [if_neg q1]
    by_cases q2 : j = a
    · rw [if_pos q2]; exact hx
    · rw [if_neg q2]; exact h (j - 1) (by omega)
theorem rkk_lt (M : Nat → Bool) (s t : Nat → Nat) : ∀ i j, j < (rkk M s t i).1 → (rkk M s t i).2 j < i
  | 0, j, h => absurd h (Nat.not_lt_zero j)
  | i + 1, j, h => by
    unfold rkk at h ⊢
    by_cases e : M i
    · rw [if_pos e] at h ⊢
      exact ins_lt (fun j hj => Nat.lt_succ_of_lt (rkk_lt M s t i j hj)) (Nat.lt_succ_self i) (rin_le _) j h
    · rw [if_neg e] at h ⊢
      exact Nat.lt_succ_of_lt (rkk_lt M s t i j h)
/-- a row of the findings, as told -/
def rwO (I : Iz) (A : Nat → Nat) (b w : Nat) (S T : Sg) (n s t : Nat) (l g m : Bool) : Prop := stpC I A b w S T n ∧ I (A b) 9 = nI s ∧ s ≤ 1000 ∧ I (A b) 8 = nI t ∧ t ≤ 16 ∧ I (A b) 11 = bz (l = true) ∧ I (A b) 12 = bz (g = true) ∧ I (A b) 13 = bz (m = true)
theorem rwO.keep {κ : Kz} {R : Rz} {A : Nat → Nat} {b w : Nat} {S T : Sg} {n s t : Nat} {l g m : Bool} {I I1 : Iz} (hc : LCg κ R A b) (h : rwO I A b w S T n s t l g m) (hF : ∀ t, b ≤ t → t < b + 5 → I1 (A t) = I (A t)) : rwO I1 A b w S T n s t l g m := by
  have e0 := hF b (Nat.le_refl _) (by omega)
  have e1 := hF (b + 1) (by omega) (by omega)
  have e2 := hF (b + 2) (by omega) (by omega)
  have e3 := hF (b + 3) (by omega) (by omega)
  have e4 := hF (b + 4) (by omega) (by omega)
  unfold rwO stpC cAr at *
  rw [e0, e1, e2, e3, e4]
  exact h
def fnd (I : Iz) (A : Nat → Nat) (m bl bg bb : Nat) (r : Nat → Nat) (cv : Nat → Bool) : Prop := I (A 11) 3 = nI m ∧ I (A 11) 4 = nI bl ∧ I (A 11) 5 = nI bg ∧ I (A 11) 6 = nI bb ∧ (∀ j, j < m → I (A 13) j = nI (r j)) ∧ ∀ x, x < 8 → I (A 14) x = bz (cv x = true)
def Ffd (A : Nat → Nat) (I I1 : Iz) : Prop := ∀ a, a ≠ A 11 → a ≠ A 13 → a ≠ A 14 → I1 a = I a
set_option maxHeartbeats 4000000 in
set_option maxRecDepth 100000 in
theorem lp_X2_g1 {z : Zz} {κ : Kz} {I0 : Iz} {R : Rz} {J : Jz} {A : Nat → Nat} (hf : LFg κ R A) (hz : Am z cX2_gather RX2 4 2) {n : Nat} (K : ∀ I1, (∀ a, a ≠ A 14 → I1 a = I0 a) → (∀ x, x < 8 → I1 (A 14) x = 0) → V z 4 0 0 44 [(0, .ref (A 11)), (1, .int (nI n))] [] κ I1 R J) :
    ∀ (m i : Nat) (I : Iz), i ≤ 8 → 9 ≤ i + m → (∀ a, a ≠ A 14 → I a = I0 a) → (∀ x, x < i → I (A 14) x = 0) → V z 4 0 0 22 [(0, .ref (A 11)), (1, .int (nI n)), (2, .int (nI i))] [] κ I R J := by
  obtain ⟨hk, ho11, ⟨hR0, hK12, hN12, hrow⟩, ⟨hR1, hK13, hN13, ho13⟩, ⟨hR2, hK14, hN14, ho14⟩⟩ := id hf
  have n13 : A 11 ≠ A 13 := tag_ne ho11 ho13 (by decide)
  have n14 : A 11 ≠ A 14 := tag_ne ho11 ho14 (by decide)
  have n34 : A 13 ≠ A 14 := tag_ne ho13 ho14 (by decide)
  intro m
  induction m with
  | zero => intro i I hi hm; exact absurd hm (by omega)
  | succ m ih =>
  intro i I hi hm hF hz0
  refine v_iload_n hz dX2_gather_22 rfl ?_
  refine v_aload_n hz dX2_gather_23 rfl ?_
  refine v_getR hz fX2_22 (by assumption) (by assumption) dX2_gather_24 ?_
  refine v_alenN hz (by omega) (by assumption) dX2_gather_27 ?_
  first | with_reducible refine v_icmp_geN hz 44 (by omega) (by omega) dX2_gather_28 (by decide) (fun c28 => ?_) (fun c28 => ?_) | refine v_icmp_ge hz 44 dX2_gather_28 (by decide) (fun c28 => ?_) (fun c28 => ?_)
  · exact v_sub (K _ hF (fun x hx => hz0 x (by omega))) ⟨rfl, rfl, trivial⟩
  · refine v_aload_n hz dX2_gather_31 rfl ?_
    refine v_getR hz fX2_22 (by assumption) (by assumption) dX2_gather_32 ?_
    refine v_iload_n hz dX2_gather_35 rfl ?_
    refine v_ic (v := nI 0) hz dX2_gather_36 (by decide) ?_
    refine v_zastN hz (by assumption) (by assumption) (by omega) (by decide) (by first | exact Or.inl rfl | exact Or.inr rfl | exact bz_01) dX2_gather_37 ?_
    first | refine v_iincN hz 1 dX2_gather_38 (by decide) rfl (by decide) rfl ?_ | refine v_iinc hz dX2_gather_38 rfl (by decide) rfl ?_
    refine v_goto hz 22 dX2_gather_41 (by decide) ?_
    exact v_sub (ih (i + 1) _ (by omega) (by omega) (fun a ha => by rw [u2_ne ha]; exact hF a ha) (fun x hx => by
      by_cases e : x = i
      · rw [e, u2_eq]; rfl
      · rw [u2_at e]; exact hz0 x (by omega))) ⟨rfl, rfl, rfl, trivial⟩
set_option maxHeartbeats 4000000 in
set_option maxRecDepth 100000 in
theorem lp_X2_g2 {z : Zz} {κ : Kz} {I0 : Iz} {R : Rz} {J : Jz} {A : Nat → Nat} (hf : LFg κ R A) (hz : Am z cX2_gather RX2 4 2) {w n : Nat} {S : Nat → Sg} {T : Sg} {ns s t : Nat → Nat} {L Gm M : Nat → Bool} (hn : n ≤ 12) (hS : ∀ i, i < n → okS (S i)) (hT : okS T) (hw : w ≤ 20) (hrw : ∀ i, i < n → rwO I0 A (65 + 5 * i) w (S i) T (ns i) (s i) (t i) (L i) (Gm i) (M i)) (hr : Rt z yX2_gather none 0 0 (Sv κ R J (fun I1 => Ffd A I0 I1 ∧ fnd I1 A (rkk M s t n).1 (sm (fun i => if L i then 1 else 0) n) (sm (fun i => if Gm i then 1 else 0) n) (sm (fun i => if (L i && Gm i) then 1 else 0) n) (rkk M s t n).2 (cvk w S T ns M n)))) :
    ∀ (m i : Nat) (I : Iz), i ≤ n → n + 1 ≤ i + m → Ffd A I0 I → fnd I A (rkk M s t i).1 (sm (fun i => if L i then 1 else 0) i) (sm (fun i => if Gm i then 1 else 0) i) (sm (fun i => if (L i && Gm i) then 1 else 0) i) (rkk M s t i).2 (cvk w S T ns M i) → V z 4 0 0 46 [(0, .ref (A 11)), (1, .int (nI n)), (2, .int (nI i))] [] κ I R J := by
  obtain ⟨hk, ho11, ⟨hR0, hK12, hN12, hrow⟩, ⟨hR1, hK13, hN13, ho13⟩, ⟨hR2, hK14, hN14, ho14⟩⟩ := id hf
  have n13 : A 11 ≠ A 13 := tag_ne ho11 ho13 (by decide)
  have n14 : A 11 ≠ A 14 := tag_ne ho11 ho14 (by decide)
  have n34 : A 13 ≠ A 14 := tag_ne ho13 ho14 (by decide)
  intro m
  induction m with
  | zero => intro i I hi hm; exact absurd hm (by omega)
  | succ m ih =>
  intro i I hi hm hF hfn
  obtain ⟨f3, f4, f5, f6, f7, f8⟩ := id hfn
  have rl := rkk_le M s t i
  have keepR : ∀ (I9 : Iz) (j : Nat), j < n → Ffd A I0 I9 → rwO I9 A (65 + 5 * j) w (S j) T (ns j) (s j) (t j) (L j) (Gm j) (M j) := fun I9 j hj h9 => by
    have cj := (hrow j (by omega)).2
    exact (hrw j hj).keep cj (fun t9 a1 a2 => h9 _ (tag_ne (cj.tag a1 a2) ho11 (by omega)) (tag_ne (cj.tag a1 a2) ho13 (by omega)) (tag_ne (cj.tag a1 a2) ho14 (by omega)))
  refine v_iload_n hz dX2_gather_46 rfl ?_
  refine v_iload_n hz dX2_gather_47 rfl ?_
  first | with_reducible refine v_icmp_geN hz 160 (by omega) (by omega) dX2_gather_48 (by decide) (fun c48 => ?_) (fun c48 => ?_) | refine v_icmp_ge hz 160 dX2_gather_48 (by decide) (fun c48 => ?_) (fun c48 => ?_)
  · exact v_vret hz hr dX2_gather_160 ⟨hF, by rw [show n = i by omega]; exact hfn⟩
  · refine v_iload_n hz dX2_gather_51 rfl ?_
    refine v_aload_n hz dX2_gather_52 rfl ?_
    refine v_getR hz fX2_11 (by assumption) (by assumption) dX2_gather_53 ?_
    refine v_alenN hz (by omega) (by assumption) dX2_gather_56 ?_
    first | with_reducible refine v_icmp_geN hz 160 (by omega) (by omega) dX2_gather_57 (by decide) (fun c57 => ?_) (fun c57 => ?_) | refine v_icmp_ge hz 160 dX2_gather_57 (by decide) (fun c57 => ?_) (fun c57 => ?_)
    · exact absurd c57 (by omega)
    · refine v_aload_n hz dX2_gather_60 rfl ?_
      refine v_getR hz fX2_11 (by assumption) (by assumption) dX2_gather_61 ?_
      refine v_iload_n hz dX2_gather_64 rfl ?_
      refine v_aaldN hz (by omega) (by assumption) (by omega) (by decide) (hrow i (by omega)).1 dX2_gather_65 ?_
      have ci := (hrow i (by omega)).2
      have ck := ci.1
      have ri := keepR _ i (by omega) hF
      obtain ⟨st9, q9, q9b, q8, q8b, q11, q12, q13⟩ := ri
      have na : A (65 + 5 * i) ≠ A 11 := tag_ne ci.2.1 ho11 (by omega)
      refine v_astore_n hz dX2_gather_66 (by decide) rfl ?_
      refine v_aload_n hz dX2_gather_67 rfl ?_
      refine v_dup hz dX2_gather_68 rfl ?_
      refine v_getI hz fX2_30 (by assumption) dX2_gather_69 ?_
      refine v_top f4 ?_
      refine v_aload_n hz dX2_gather_72 rfl ?_
      refine v_getI hz fX2_39 (by assumption) dX2_gather_73 ?_
      refine v_top q11 ?_
      refine v_join 84 (nI (if L i then 1 else 0)) (fun hj => ?_) ?_
      · first | with_reducible refine v_if_eqB hz 83 dX2_gather_76 (by decide) (fun c76 => ?_) (fun c76 => ?_) | with_reducible refine v_if_eqN hz 83 (by omega) dX2_gather_76 (by decide) (fun c76 => ?_) (fun c76 => ?_) | refine v_if_eq hz 83 dX2_gather_76 (by decide) (fun c76 => ?_) (fun c76 => ?_)
        · refine v_ic (v := nI 0) hz dX2_gather_83 (by decide) ?_
          exact v_top (by first | exact congrArg nI (if_pos (by assumption)).symm | exact congrArg nI (if_neg (by assumption)).symm) hj
        · refine v_ic (v := nI 1) hz dX2_gather_79 (by decide) ?_
          refine v_goto hz 84 dX2_gather_80 (by decide) ?_
          exact v_top (by first | exact congrArg nI (if_pos (by assumption)).symm | exact congrArg nI (if_neg (by assumption)).symm) hj
      first | with_reducible refine v_iaddN hz dX2_gather_84 ?_ | refine v_iadd hz dX2_gather_84 ?_
      refine v_putI hz fX2_30 (by assumption) dX2_gather_85 ?_
      refine v_gen (fun I2 hI2 => ?_)
      have p12 : I2 (A (65 + 5 * i)) 12 = bz (Gm i = true) := by rw [hI2, u2_ne na]; exact q12
      have p11 : I2 (A (65 + 5 * i)) 11 = bz (L i = true) := by rw [hI2, u2_ne na]; exact q11
      refine v_aload_n hz dX2_gather_88 rfl ?_
      refine v_dup hz dX2_gather_89 rfl ?_
      refine v_getI hz fX2_33 (by assumption) dX2_gather_90 ?_
      refine v_top (y := nI (sm (fun i => if Gm i then 1 else 0) i)) (by rw [hI2, u2_at (by decide)]; exact f5) ?_
      refine v_aload_n hz dX2_gather_93 rfl ?_
      refine v_getI hz fX2_43 (by assumption) dX2_gather_94 ?_
      refine v_top p12 ?_
      refine v_join 105 (nI (if Gm i then 1 else 0)) (fun hj => ?_) ?_
      · first | with_reducible refine v_if_eqB hz 104 dX2_gather_97 (by decide) (fun c97 => ?_) (fun c97 => ?_) | with_reducible refine v_if_eqN hz 104 (by omega) dX2_gather_97 (by decide) (fun c97 => ?_) (fun c97 => ?_) | refine v_if_eq hz 104 dX2_gather_97 (by decide) (fun c97 => ?_) (fun c97 => ?_)
        · refine v_ic (v := nI 0) hz dX2_gather_104 (by decide) ?_
          exact v_top (by first | exact congrArg nI (if_pos (by assumption)).symm | exact congrArg nI (if_neg (by assumption)).symm) hj
        · refine v_ic (v := nI 1) hz dX2_gather_100 (by decide) ?_
          refine v_goto hz 105 dX2_gather_101 (by decide) ?_
          exact v_top (by first | exact congrArg nI (if_pos (by assumption)).symm | exact congrArg nI (if_neg (by assumption)).symm) hj
      first | with_reducible refine v_iaddN hz dX2_gather_105 ?_ | refine v_iadd hz dX2_gather_105 ?_
      refine v_putI hz fX2_33 (by assumption) dX2_gather_106 ?_
      refine v_gen (fun I3 hI3 => ?_)
      have o12 : I3 (A (65 + 5 * i)) 12 = bz (Gm i = true) := by rw [hI3, u2_ne na]; exact p12
      have o11 : I3 (A (65 + 5 * i)) 11 = bz (L i = true) := by rw [hI3, u2_ne na]; exact p11
      refine v_aload_n hz dX2_gather_109 rfl ?_
      refine v_dup hz dX2_gather_110 rfl ?_
      refine v_getI hz fX2_36 (by assumption) dX2_gather_111 ?_
      refine v_top (y := nI (sm (fun i => if (L i && Gm i) then 1 else 0) i)) (by rw [hI3, u2_at (by decide), hI2, u2_at (by decide)]; exact f6) ?_
      refine v_aload_n hz dX2_gather_114 rfl ?_
      refine v_getI hz fX2_39 (by assumption) dX2_gather_115 ?_
      refine v_top o11 ?_
      refine v_join 133 (nI (if (L i && Gm i) then 1 else 0)) (fun hj => ?_) ?_
      · first | with_reducible refine v_if_eqB hz 132 dX2_gather_118 (by decide) (fun c118 => ?_) (fun c118 => ?_) | with_reducible refine v_if_eqN hz 132 (by omega) dX2_gather_118 (by decide) (fun c118 => ?_) (fun c118 => ?_) | refine v_if_eq hz 132 dX2_gather_118 (by decide) (fun c118 => ?_) (fun c118 => ?_)
        · refine v_ic (v := nI 0) hz dX2_gather_132 (by decide) ?_
          exact v_top (by simp_all) hj
        · refine v_aload_n hz dX2_gather_121 rfl ?_
          refine v_getI hz fX2_43 (by assumption) dX2_gather_122 ?_
          refine v_top o12 ?_
          first | with_reducible refine v_if_eqB hz 132 dX2_gather_125 (by decide) (fun c125 => ?_) (fun c125 => ?_) | with_reducible refine v_if_eqN hz 132 (by omega) dX2_gather_125 (by decide) (fun c125 => ?_) (fun c125 => ?_) | refine v_if_eq hz 132 dX2_gather_125 (by decide) (fun c125 => ?_) (fun c125 => ?_)
          · refine v_ic (v := nI 0) hz dX2_gather_132 (by decide) ?_
            exact v_top (by simp_all) hj
          · refine v_ic (v := nI 1) hz dX2_gather_128 (by decide) ?_
            refine v_goto hz 133 dX2_gather_129 (by decide) ?_
            exact v_top (by simp_all) hj
      first | with_reducible refine v_iaddN hz dX2_gather_133 ?_ | refine v_iadd hz dX2_gather_133 ?_
      refine v_putI hz fX2_36 (by assumption) dX2_gather_134 ?_
      refine v_gen (fun I4 hI4 => ?_)
      have hF4 : Ffd A I0 I4 := fun a a1 a2 a3 => by rw [hI4, u2_ne a1, hI3, u2_ne a1, hI2, u2_ne a1]; exact hF a a1 a2 a3
      obtain ⟨st4, z9, z9b, z8, z8b, z11, z12, z13⟩ := keepR _ i (by omega) hF4
      have e3 : I4 (A 11) 3 = nI (rkk M s t i).1 := by rw [hI4, u2_at (by decide), hI3, u2_at (by decide), hI2, u2_at (by decide)]; exact f3
      have e4 : I4 (A 11) 4 = nI (sm (fun i => if L i then 1 else 0) (i + 1)) := by rw [hI4, u2_at (by decide), hI3, u2_at (by decide), hI2, u2_eq]; rfl
      have e5 : I4 (A 11) 5 = nI (sm (fun i => if Gm i then 1 else 0) (i + 1)) := by rw [hI4, u2_at (by decide), hI3, u2_eq]; rfl
      have e6 : I4 (A 11) 6 = nI (sm (fun i => if (L i && Gm i) then 1 else 0) (i + 1)) := by rw [hI4, u2_eq]; rfl
      have e13 : I4 (A 13) = I (A 13) := by rw [hI4, u2_ne (Ne.symm n13), hI3, u2_ne (Ne.symm n13), hI2, u2_ne (Ne.symm n13)]
      have e14 : I4 (A 14) = I (A 14) := by rw [hI4, u2_ne (Ne.symm n14), hI3, u2_ne (Ne.symm n14), hI2, u2_ne (Ne.symm n14)]
      refine v_aload_n hz dX2_gather_137 rfl ?_
      refine v_getI hz fX2_46 (by assumption) dX2_gather_138 ?_
      refine v_top z13 ?_
      first | with_reducible refine v_if_eqB hz 154 dX2_gather_141 (by decide) (fun c141 => ?_) (fun c141 => ?_) | with_reducible refine v_if_eqN hz 154 (by omega) dX2_gather_141 (by decide) (fun c141 => ?_) (fun c141 => ?_) | refine v_if_eq hz 154 dX2_gather_141 (by decide) (fun c141 => ?_) (fun c141 => ?_)
      · first | refine v_iincN hz 1 dX2_gather_154 (by decide) rfl (by decide) rfl ?_ | refine v_iinc hz dX2_gather_154 rfl (by decide) rfl ?_
        refine v_goto hz 46 dX2_gather_157 (by decide) ?_
        first
        | (exact v_sub (ih (i + 1) _ (by omega) (by omega) (fun a a1 a2 a3 => by rw [vF a a3]; exact hF5 a a1 a2 a3) ⟨by rw [vF _ n14, m3, rkk, if_pos c141], by rw [vF _ n14, mO 4 (by decide)]; exact e4, by rw [vF _ n14, mO 5 (by decide)]; exact e5, by rw [vF _ n14, mO 6 (by decide)]; exact e6, fun j hj => by rw [rkk, if_pos c141] at hj ⊢; rw [vF _ n34]; exact m13 j hj, fun x hx => by rw [cvk, if_pos c141]; exact v14 x hx⟩) ⟨rfl, rfl, rfl, trivial⟩)
        | (exact v_sub (ih (i + 1) _ (by omega) (by omega) hF4 ⟨by rw [e3, rkk, if_neg c141], e4, e5, e6, fun j hj => by rw [rkk, if_neg c141] at hj ⊢; rw [e13]; exact f7 j hj, fun x hx => by rw [cvk, if_neg c141, e14]; exact f8 x hx⟩) ⟨rfl, rfl, rfl, trivial⟩)
      · refine v_aload_n hz dX2_gather_144 rfl ?_
        refine v_iload_n hz dX2_gather_145 rfl ?_
        refine v_callVv hz lX2_49 (cX2_insertMatch_ok _ _ _ _ _ _ A hf (rkk M s t i).1 i (i + 1) (rkk M s t i).2 s t (by omega) (by omega) (by omega) (by omega) (fun j hj => by obtain ⟨-, w9, w9b, w8, w8b, -⟩ := keepR _ j (by omega) hF4; exact ⟨w9, w9b, w8, w8b⟩) (fun j hj => ⟨by rw [e13]; exact f7 j hj, Nat.lt_succ_of_lt (rkk_lt M s t i j hj)⟩) e3) (by assumption) rfl rfl (Nat.le_of_ble_eq_true rfl) (by decide) ⟨Nat.zero_le _, Nat.zero_le _⟩ dX2_gather_146 (fun I5 h146 => ?_)
        obtain ⟨m3, m13, mF, mO⟩ := h146
        have hF5 : Ffd A I0 I5 := fun a a1 a2 a3 => by rw [mF a a1 a2]; exact hF4 a a1 a2 a3
        obtain ⟨st5, -⟩ := keepR _ i (by omega) hF5
        refine v_aload_n hz dX2_gather_149 rfl ?_
        refine v_aload_n hz dX2_gather_150 rfl ?_
        refine v_callVv hz lX2_53 (cX2_cover_ok _ _ _ _ _ _ A hf _ (ns i) w (S i) T (cvk w S T ns M i) ci (by omega) (hS i (by omega)) hT hw st5 (fun x hx => by rw [mF _ (Ne.symm n14) (Ne.symm n34), e14]; exact f8 x hx)) (by assumption) rfl rfl (Nat.le_of_ble_eq_true rfl) (by decide) ⟨Nat.zero_le _, Nat.zero_le _⟩ dX2_gather_151 (fun I6 h151 => ?_)
        obtain ⟨vF, v14⟩ := h151
        first | refine v_iincN hz 1 dX2_gather_154 (by decide) rfl (by decide) rfl ?_ | refine v_iinc hz dX2_gather_154 rfl (by decide) rfl ?_
        refine v_goto hz 46 dX2_gather_157 (by decide) ?_
        first
        | (exact v_sub (ih (i + 1) _ (by omega) (by omega) (fun a a1 a2 a3 => by rw [vF a a3]; exact hF5 a a1 a2 a3) ⟨by rw [vF _ n14, m3, rkk, if_pos c141], by rw [vF _ n14, mO 4 (by decide)]; exact e4, by rw [vF _ n14, mO 5 (by decide)]; exact e5, by rw [vF _ n14, mO 6 (by decide)]; exact e6, fun j hj => by rw [rkk, if_pos c141] at hj ⊢; rw [vF _ n34]; exact m13 j hj, fun x hx => by rw [cvk, if_pos c141]; exact v14 x hx⟩) ⟨rfl, rfl, rfl, trivial⟩)
        | (exact v_sub (ih (i + 1) _ (by omega) (by omega) hF4 ⟨by rw [e3, rkk, if_neg c141], e4, e5, e6, fun j hj => by rw [rkk, if_neg c141] at hj ⊢; rw [e13]; exact f7 j hj, fun x hx => by rw [cvk, if_neg c141, e14]; exact f8 x hx⟩) ⟨rfl, rfl, rfl, trivial⟩)
set_option maxHeartbeats 4000000 in
set_option maxRecDepth 100000 in
theorem cX2_gather_ok (l : Launch) (g : Gz) (κ : Kz) (I : Iz) (R : Rz) (J : Jz) (A : Nat → Nat) (hf : LFg κ R A) (w n : Nat) (S : Nat → Sg) (T : Sg) (ns s t : Nat → Nat) (L Gm M : Nat → Bool) (hn : n ≤ 12) (hS : ∀ i, i < n → okS (S i)) (hT : okS T) (hw : w ≤ 20) (hrw : ∀ i, i < n → rwO I A (65 + 5 * i) w (S i) T (ns i) (s i) (t i) (L i) (Gm i) (M i)) : Ct l mX2_gather 0 0 g [.ref (A 11), .int (nI n)] κ I R J (Sv κ R J (fun I1 => Ffd A I I1 ∧ fnd I1 A (rkk M s t n).1 (sm (fun i => if L i then 1 else 0) n) (sm (fun i => if Gm i then 1 else 0) n) (sm (fun i => if (L i && Gm i) then 1 else 0) n) (rkk M s t n).2 (cvk w S T ns M n))) := by
  refine ct_of (by decide) (Nat.le_of_ble_eq_true rfl) ?_
  intro z hz hr hrc hrs
  have hz : Am z cX2_gather RX2 4 2 := hz
  have hr : Rt z yX2_gather none 0 0 _ := hr
  show V z 4 0 0 0 [(0, .ref (A 11)), (1, .int (nI n))] [] κ I R J
  obtain ⟨hk, ho11, ⟨hR0, hK12, hN12, hrow⟩, ⟨hR1, hK13, hN13, ho13⟩, ⟨hR2, hK14, hN14, ho14⟩⟩ := id hf
  have n13 : A 11 ≠ A 13 := tag_ne ho11 ho13 (by decide)
  have n14 : A 11 ≠ A 14 := tag_ne ho11 ho14 (by decide)
  have n34 : A 13 ≠ A 14 := tag_ne ho13 ho14 (by decide)
  refine v_aload_n hz dX2_gather_0 rfl ?_
  refine v_ic (v := nI 0) hz dX2_gather_1 (by decide) ?_
  refine v_putI hz fX2_26 (by assumption) dX2_gather_2 ?_
  refine v_aload_n hz dX2_gather_5 rfl ?_
  refine v_ic (v := nI 0) hz dX2_gather_6 (by decide) ?_
  refine v_putI hz fX2_30 (by assumption) dX2_gather_7 ?_
  refine v_aload_n hz dX2_gather_10 rfl ?_
  refine v_ic (v := nI 0) hz dX2_gather_11 (by decide) ?_
  refine v_putI hz fX2_33 (by assumption) dX2_gather_12 ?_
  refine v_aload_n hz dX2_gather_15 rfl ?_
  refine v_ic (v := nI 0) hz dX2_gather_16 (by decide) ?_
  refine v_putI hz fX2_36 (by assumption) dX2_gather_17 ?_
  refine v_ic (v := nI 0) hz dX2_gather_20 (by decide) ?_
  refine v_istore_n hz dX2_gather_21 (by decide) rfl ?_
  refine v_gen (fun I2 hI2 => ?_)
  refine v_sub (lp_X2_g1 hf hz (I0 := I2) (n := n) (fun I3 h3 h4 => ?_) 9 0 I2 (by omega) (by omega) (fun _ _ => rfl) (fun x hx => absurd hx (by omega))) ⟨rfl, rfl, rfl, trivial⟩
  refine v_ic (v := nI 0) hz dX2_gather_44 (by decide) ?_
  refine v_istore_n hz dX2_gather_45 (by decide) rfl ?_
  exact v_sub (lp_X2_g2 hf hz hn hS hT hw hrw hr (n + 1) 0 I3 (by omega) (by omega) (fun a a1 a2 a3 => by rw [h3 a a3, hI2, u2_ne a1, u2_ne a1, u2_ne a1, u2_ne a1]) ⟨by rw [h3 _ n14, hI2, u2_at (by decide), u2_at (by decide), u2_at (by decide), u2_eq]; rfl, by rw [h3 _ n14, hI2, u2_at (by decide), u2_at (by decide), u2_eq]; rfl, by rw [h3 _ n14, hI2, u2_at (by decide), u2_eq]; rfl, by rw [h3 _ n14, hI2, u2_eq]; rfl, fun j hj => absurd hj (Nat.not_lt_zero j), fun x hx => by rw [h4 x hx]; exact (bz_f (by simp [cvk])).symm⟩) ⟨rfl, rfl, rfl, trivial⟩
