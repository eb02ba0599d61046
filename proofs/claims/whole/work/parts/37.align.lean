/-! ===== the class: the aligner: its object at 5, both 6 (rows 20 ..), rest 7 (rows 40 ..), edits 8 ===== -/
def LAg (κ : Kz) (R : Rz) (A : Nat → Nat) : Prop := κ.1 (A 5) = 0 ∧ (R (A 5) 0 = some (A 6) ∧ κ.1 (A 6) = 14 ∧ κ.2.1 (A 6) = 8 ∧ ∀ i, i < 8 → R (A 6) i = some (A (20 + i)) ∧ κ.1 (A (20 + i)) = 9 ∧ κ.2.1 (A (20 + i)) = 8 ∧ κ.2.2 (A (20 + i)) = 20 + i) ∧ (R (A 5) 1 = some (A 7) ∧ κ.1 (A 7) = 14 ∧ κ.2.1 (A 7) = 9 ∧ ∀ i, i < 9 → R (A 7) i = some (A (40 + i)) ∧ κ.1 (A (40 + i)) = 9 ∧ κ.2.1 (A (40 + i)) = 9 ∧ κ.2.2 (A (40 + i)) = 40 + i) ∧ (R (A 5) 2 = some (A 8) ∧ κ.1 (A 8) = 9 ∧ κ.2.1 (A 8) = 13 ∧ κ.2.2 (A 8) = 8)
/-- the tags of the aligner's rows -/
def aT (t : Nat) : Prop := t = 8 ∨ (20 ≤ t ∧ t < 28) ∨ (40 ≤ t ∧ t < 49)
def Fa (A : Nat → Nat) (I I1 : Iz) : Prop := ∀ a, (∀ t, aT t → a ≠ A t) → I1 a = I a
theorem LAg.tag {κ : Kz} {R : Rz} {A : Nat → Nat} (h : LAg κ R A) {t : Nat} (ht : aT t) : κ.2.2 (A t) = t := by
  obtain ⟨-, ⟨-, -, -, h1⟩, ⟨-, -, -, h2⟩, ⟨-, -, -, h3⟩⟩ := h
  rcases ht with e | e | e
  · rw [e]; exact h3
  · have := (h1 (t - 20) (by omega)).2.2.2
    rw [show 20 + (t - 20) = t by omega] at this
    exact this
  · have := (h2 (t - 40) (by omega)).2.2.2
    rw [show 40 + (t - 40) = t by omega] at this
    exact this
theorem Fa.rf {A : Nat → Nat} {I : Iz} : Fa A I I := fun _ _ => rfl
theorem Fa.tr {A : Nat → Nat} {I I1 I2 : Iz} (h : Fa A I I1) (h' : Fa A I1 I2) : Fa A I I2 := fun a ha => (h' a ha).trans (h a ha)
theorem Fa.put {A : Nat → Nat} {I I1 : Iz} {t k : Nat} {x : Int32} (h : Fa A I I1) (ht : aT t) : Fa A I (u2 I1 (A t) k x) := fun a ha => (u2_ne (ha t ht)).trans (h a ha)
theorem Fa.at {κ : Kz} {R : Rz} {A : Nat → Nat} (hA : LAg κ R A) {I I1 : Iz} (h : Fa A I I1) {x s : Nat} (hx : κ.2.2 x = s) (hs : ¬ aT s) : I1 x = I x := h x (fun t ht => tag_ne hx (hA.tag ht) (fun e => hs (e ▸ ht)))
theorem naT {s : Nat} (h : 49 ≤ s ∨ s < 8 ∨ (8 < s ∧ s < 20)) : ¬ aT s := fun q => by
  rcases q with e | e | e <;> omega
theorem csn.fa {κ : Kz} {R : Rz} {A : Nat → Nat} (hA : LAg κ R A) {I I1 : Iz} (h : Fa A I I1) {b L D : Nat} {T : Nat → Nat} (hs : LSg κ R A b) (hb : 200 ≤ b) (hc : csn I A b L D T) : csn I1 A b L D T := hc.keep (h.at hA hs.2.2.2.2.1 (naT (by omega))) (h.at hA hs.2.2.2.2.2 (naT (by omega)))
theorem csg.fa {κ : Kz} {R : Rz} {A : Nat → Nat} (hA : LAg κ R A) {I I1 : Iz} (h : Fa A I I1) {b : Nat} {S : Sg} (hg : LGg κ R A b) (hb : 200 ≤ b) (hc : csg I A b S) : csg I1 A b S := by
  have e := h.at hA hg.2.1 (naT (by omega))
  obtain ⟨h1, h2, h3, h4⟩ := hc
  exact ⟨h1, by rw [e]; exact h2, by rw [e]; exact h3, fun i hi => (h4 i hi).fa hA h (hg.2.2.2.2 i (by omega)).2 (by omega)⟩
theorem cgr.fa {κ : Kz} {R : Rz} {A : Nat → Nat} (hA : LAg κ R A) {I I1 : Iz} (h : Fa A I I1) {b n : Nat} {Gr : Nat → Nat} (hg : LGg κ R A b) (hb : 200 ≤ b) (hc : cgr I A b n Gr) : cgr I1 A b n Gr := hc.keep (by rw [h.at hA hg.2.1 (naT (by omega))]) (h.at hA hg.2.2.2.1.2.2.2 (naT (by omega)))
/-- only the edits' row may have changed -/
def Fe (A : Nat → Nat) (I I1 : Iz) : Prop := ∀ a, a ≠ A 8 → I1 a = I a
theorem Fe.rf {A : Nat → Nat} {I : Iz} : Fe A I I := fun _ _ => rfl
theorem Fe.put {A : Nat → Nat} {I I1 : Iz} {k : Nat} {x : Int32} (h : Fe A I I1) : Fe A I (u2 I1 (A 8) k x) := fun a ha => (u2_ne ha).trans (h a ha)
theorem Fe.fa {A : Nat → Nat} {I I1 : Iz} (h : Fe A I I1) : Fa A I I1 := fun a ha => h a (ha 8 (Or.inl rfl))
def eRw (I : Iz) (A : Nat → Nat) (T1 T2 : Nat → Nat) (L2 i j : Nat) : Prop := ∀ k, k ≤ L2 → I (A 8) k = nI (if k ≤ j then lev T1 T2 (i + 1) k else lev T1 T2 i k)
theorem eRw.to {I : Iz} {A : Nat → Nat} {T1 T2 : Nat → Nat} {L2 i j j2 : Nat} (h : eRw I A T1 T2 L2 i j) (e : j = j2) : eRw I A T1 T2 L2 i j2 := e ▸ h
theorem eRw.put {I : Iz} {A : Nat → Nat} {T1 T2 : Nat → Nat} {L2 i j x : Nat} (h : eRw I A T1 T2 L2 i j) (hx : x = lev T1 T2 (i + 1) (j + 1)) : eRw (u2 I (A 8) (j + 1) (nI x)) A T1 T2 L2 i (j + 1) := fun k hk => by
  by_cases e : k = j + 1
  · rw [e, u2_eq, if_pos (Nat.le_refl _), hx]
  · rw [u2_at e, h k hk]
    by_cases e2 : k ≤ j
    · rw [if_pos e2, if_pos (by omega)]
    · rw [if_neg e2, if_neg (by omega)]
set_option maxHeartbeats 4000000 in
set_option maxRecDepth 100000 in
theorem lp_X0_le0 {z : Zz} {κ : Kz} {I0 : Iz} {R : Rz} {J : Jz} {A : Nat → Nat} (ha : LAg κ R A) (hz : Am z cX0_leastEdits RX0 8 0) {b1 b2 L1 L2 D1 D2 : Nat} {T1 T2 : Nat → Nat} (hs1 : LSg κ R A b1) (hs2 : LSg κ R A b2) (hb1 : 200 ≤ b1) (hb2 : 200 ≤ b2) (h1 : csn I0 A b1 L1 D1 T1) (h2 : csn I0 A b2 L2 D2 T2) (K : ∀ I1, Fe A I0 I1 → (∀ k, k ≤ L2 → I1 (A 8) k = nI k) → V z 8 0 0 23 [(0, .ref (A 5)), (1, .ref (A b1)), (2, .ref (A b2))] [] κ I1 R J) :
    ∀ (n j : Nat) (I : Iz), j ≤ L2 + 1 → L2 + 2 ≤ j + n → Fe A I0 I → (∀ k, k < j → I (A 8) k = nI k) → V z 8 0 0 2 [(0, .ref (A 5)), (1, .ref (A b1)), (2, .ref (A b2)), (3, .int (nI j))] [] κ I R J := by
  obtain ⟨hk, ⟨hR0, hK6, hN6, hrb⟩, ⟨hR1, hK7, hN7, hrr⟩, ⟨hR2, hK8, hN8, ho8⟩⟩ := id ha
  obtain ⟨sk, sR0, sK1, sN1, so, so1⟩ := id hs1
  obtain ⟨tk, tR0, tK1, tN1, to, to1⟩ := id hs2
  intro n
  induction n with
  | zero => intro j I hj hn; exact absurd hn (by omega)
  | succ n ih =>
  intro j I hj hn hF hrw
  have g1 : csn I A b1 L1 D1 T1 := h1.fa ha hF.fa hs1 hb1
  have g2 : csn I A b2 L2 D2 T2 := h2.fa ha hF.fa hs2 hb2
  have bL1 := h1.1
  have bL2 := h2.1
  refine v_iload_n hz dX0_leastEdits_2 rfl ?_
  refine v_aload_n hz dX0_leastEdits_3 rfl ?_
  refine v_getI hz fX0_59 (by assumption) dX0_leastEdits_4 ?_
  refine v_top g2.2.1 ?_
  first | with_reducible refine v_icmp_gtN hz 23 (by omega) (by omega) dX0_leastEdits_7 (by decide) (fun c7 => ?_) (fun c7 => ?_) | refine v_icmp_gt hz 23 dX0_leastEdits_7 (by decide) (fun c7 => ?_) (fun c7 => ?_)
  · exact v_sub (K _ hF (fun k hk => hrw k (by omega))) ⟨rfl, rfl, rfl, trivial⟩
  · refine v_aload_n hz dX0_leastEdits_10 rfl ?_
    refine v_getR hz fX0_19 (by assumption) (by assumption) dX0_leastEdits_11 ?_
    refine v_iload_n hz dX0_leastEdits_14 rfl ?_
    refine v_iload_n hz dX0_leastEdits_15 rfl ?_
    refine v_iastN hz (by assumption) (by assumption) (by omega) (by decide) dX0_leastEdits_16 ?_
    first | refine v_iincN hz 1 dX0_leastEdits_17 (by decide) rfl (by decide) rfl ?_ | refine v_iinc hz dX0_leastEdits_17 rfl (by decide) rfl ?_
    refine v_goto hz 2 dX0_leastEdits_20 (by decide) ?_
    exact v_sub (ih (j + 1) _ (by omega) (by omega) hF.put (fun k hk => by
      by_cases e : k = j
      · rw [e, u2_eq]
      · rw [u2_at e]; exact hrw k (by omega))) ⟨rfl, rfl, rfl, rfl, trivial⟩
set_option maxHeartbeats 4000000 in
set_option maxRecDepth 100000 in
theorem lp_X0_le2 {z : Zz} {κ : Kz} {I0 : Iz} {R : Rz} {J : Jz} {A : Nat → Nat} (ha : LAg κ R A) (hz : Am z cX0_leastEdits RX0 8 0) {b1 b2 L1 L2 D1 D2 : Nat} {T1 T2 : Nat → Nat} (hs1 : LSg κ R A b1) (hs2 : LSg κ R A b2) (hb1 : 200 ≤ b1) (hb2 : 200 ≤ b2) (h1 : csn I0 A b1 L1 D1 T1) (h2 : csn I0 A b2 L2 D2 T2) (i : Nat) (hi : i < L1) (K : ∀ I1, Fe A I0 I1 → eRw I1 A T1 T2 L2 i L2 → V z 8 0 0 157 [(0, .ref (A 5)), (1, .ref (A b1)), (2, .ref (A b2)), (3, .int (nI i))] [] κ I1 R J) :
    ∀ (n j : Nat) (I : Iz), j ≤ L2 → L2 + 1 ≤ j + n → Fe A I0 I → eRw I A T1 T2 L2 i j → V z 8 0 0 53 [(0, .ref (A 5)), (1, .ref (A b1)), (2, .ref (A b2)), (3, .int (nI i)), (4, .int (nI (lev T1 T2 i j))), (5, .int (nI j))] [] κ I R J := by
  obtain ⟨hk, ⟨hR0, hK6, hN6, hrb⟩, ⟨hR1, hK7, hN7, hrr⟩, ⟨hR2, hK8, hN8, ho8⟩⟩ := id ha
  obtain ⟨sk, sR0, sK1, sN1, so, so1⟩ := id hs1
  obtain ⟨tk, tR0, tK1, tN1, to, to1⟩ := id hs2
  intro n
  induction n with
  | zero => intro j I hj hn; exact absurd hn (by omega)
  | succ n ih =>
  intro j I hj hn hF hrw
  have g1 : csn I A b1 L1 D1 T1 := h1.fa ha hF.fa hs1 hb1
  have g2 : csn I A b2 L2 D2 T2 := h2.fa ha hF.fa hs2 hb2
  have bL1 := h1.1
  have bL2 := h2.1
  have l1 := lev_le T1 T2 i j
  have l2 := lev_le T1 T2 i (j + 1)
  have l3 := lev_le T1 T2 (i + 1) j
  have lss := lev_ss T1 T2 i j
  refine v_iload hz dX0_leastEdits_53 rfl ?_
  refine v_aload_n hz dX0_leastEdits_55 rfl ?_
  refine v_getI hz fX0_59 (by assumption) dX0_leastEdits_56 ?_
  refine v_top g2.2.1 ?_
  first | with_reducible refine v_icmp_geN hz 157 (by omega) (by omega) dX0_leastEdits_59 (by decide) (fun c59 => ?_) (fun c59 => ?_) | refine v_icmp_ge hz 157 dX0_leastEdits_59 (by decide) (fun c59 => ?_) (fun c59 => ?_)
  · exact v_sub (K _ hF (hrw.to (by omega))) ⟨rfl, rfl, rfl, rfl, trivial⟩
  · refine v_aload_n hz dX0_leastEdits_62 rfl ?_
    refine v_getR hz fX0_19 (by assumption) (by assumption) dX0_leastEdits_63 ?_
    refine v_iload hz dX0_leastEdits_66 rfl ?_
    refine v_ic (v := nI 1) hz dX0_leastEdits_68 (by decide) ?_
    first | with_reducible refine v_iaddN hz dX0_leastEdits_69 ?_ | refine v_iadd hz dX0_leastEdits_69 ?_
    refine v_ialdN hz (by assumption) (by assumption) (by omega) (by decide) dX0_leastEdits_70 ?_
    refine v_top (y := nI (lev T1 T2 i (j + 1))) (by rw [hrw (j + 1) (by omega), if_neg (by omega)]) ?_
    refine v_istore hz dX0_leastEdits_71 (by decide) rfl ?_
    refine v_aload_n hz dX0_leastEdits_73 rfl ?_
    refine v_getR hz fX0_107 (by assumption) (by assumption) dX0_leastEdits_74 ?_
    refine v_iload_n hz dX0_leastEdits_77 rfl ?_
    refine v_ialdN hz (by assumption) (by assumption) (by omega) (by decide) dX0_leastEdits_78 ?_
    refine v_top (g1.2.2.2.2 i hi).1 ?_
    have t1 := (g1.2.2.2.2 i hi).2
    refine v_aload_n hz dX0_leastEdits_79 rfl ?_
    refine v_getR hz fX0_107 (by assumption) (by assumption) dX0_leastEdits_80 ?_
    refine v_iload hz dX0_leastEdits_83 rfl ?_
    refine v_ialdN hz (by assumption) (by assumption) (by omega) (by decide) dX0_leastEdits_85 ?_
    refine v_top (g2.2.2.2.2 j (by omega)).1 ?_
    have t2 := (g2.2.2.2.2 j (by omega)).2
    first | with_reducible refine v_icmp_neN hz 94 (by omega) (by omega) dX0_leastEdits_86 (by decide) (fun c86 => ?_) (fun c86 => ?_) | refine v_icmp_ne hz 94 dX0_leastEdits_86 (by decide) (fun c86 => ?_) (fun c86 => ?_)
    · refine v_iload hz dX0_leastEdits_94 rfl ?_
      refine v_ic (v := nI 1) hz dX0_leastEdits_96 (by decide) ?_
      first | with_reducible refine v_iaddN hz dX0_leastEdits_97 ?_ | refine v_iadd hz dX0_leastEdits_97 ?_
      refine v_istore hz dX0_leastEdits_98 (by decide) rfl ?_
      refine v_iload hz dX0_leastEdits_100 rfl ?_
      refine v_iload hz dX0_leastEdits_102 rfl ?_
      first | with_reducible refine v_icmp_geN hz 113 (by omega) (by omega) dX0_leastEdits_104 (by decide) (fun c104 => ?_) (fun c104 => ?_) | refine v_icmp_ge hz 113 dX0_leastEdits_104 (by decide) (fun c104 => ?_) (fun c104 => ?_)
      · refine v_aload_n hz dX0_leastEdits_113 rfl ?_
        refine v_getR hz fX0_19 (by assumption) (by assumption) dX0_leastEdits_114 ?_
        refine v_iload hz dX0_leastEdits_117 rfl ?_
        refine v_ialdN hz (by assumption) (by assumption) (by omega) (by decide) dX0_leastEdits_119 ?_
        refine v_top (y := nI (lev T1 T2 (i + 1) j)) (by rw [hrw j (by omega), if_pos (Nat.le_refl _)]) ?_
        refine v_iload hz dX0_leastEdits_120 rfl ?_
        first | with_reducible refine v_icmp_geN hz 136 (by omega) (by omega) dX0_leastEdits_122 (by decide) (fun c122 => ?_) (fun c122 => ?_) | refine v_icmp_ge hz 136 dX0_leastEdits_122 (by decide) (fun c122 => ?_) (fun c122 => ?_)
        · refine v_aload_n hz dX0_leastEdits_136 rfl ?_
          refine v_getR hz fX0_19 (by assumption) (by assumption) dX0_leastEdits_137 ?_
          refine v_iload hz dX0_leastEdits_140 rfl ?_
          refine v_ic (v := nI 1) hz dX0_leastEdits_142 (by decide) ?_
          first | with_reducible refine v_iaddN hz dX0_leastEdits_143 ?_ | refine v_iadd hz dX0_leastEdits_143 ?_
          refine v_iload hz dX0_leastEdits_144 rfl ?_
          refine v_iastN hz (by assumption) (by assumption) (by omega) (by decide) dX0_leastEdits_146 ?_
          refine v_iload hz dX0_leastEdits_147 rfl ?_
          refine v_istore hz dX0_leastEdits_149 (by decide) rfl ?_
          first | refine v_iincN hz 1 dX0_leastEdits_151 (by decide) rfl (by decide) rfl ?_ | refine v_iinc hz dX0_leastEdits_151 rfl (by decide) rfl ?_
          refine v_goto hz 53 dX0_leastEdits_154 (by decide) ?_
          exact v_sub (ih (j + 1) _ (by omega) (by omega) hF.put (hrw.put (by rw [lss]; first | (rw [if_neg c86]; omega) | (rw [if_pos (by omega)]; omega)))) ⟨rfl, rfl, rfl, rfl, rfl, rfl, trivial⟩
        · refine v_aload_n hz dX0_leastEdits_125 rfl ?_
          refine v_getR hz fX0_19 (by assumption) (by assumption) dX0_leastEdits_126 ?_
          refine v_iload hz dX0_leastEdits_129 rfl ?_
          refine v_ialdN hz (by assumption) (by assumption) (by omega) (by decide) dX0_leastEdits_131 ?_
          refine v_top (y := nI (lev T1 T2 (i + 1) j)) (by rw [hrw j (by omega), if_pos (Nat.le_refl _)]) ?_
          refine v_ic (v := nI 1) hz dX0_leastEdits_132 (by decide) ?_
          first | with_reducible refine v_iaddN hz dX0_leastEdits_133 ?_ | refine v_iadd hz dX0_leastEdits_133 ?_
          refine v_istore hz dX0_leastEdits_134 (by decide) rfl ?_
          refine v_aload_n hz dX0_leastEdits_136 rfl ?_
          refine v_getR hz fX0_19 (by assumption) (by assumption) dX0_leastEdits_137 ?_
          refine v_iload hz dX0_leastEdits_140 rfl ?_
          refine v_ic (v := nI 1) hz dX0_leastEdits_142 (by decide) ?_
          first | with_reducible refine v_iaddN hz dX0_leastEdits_143 ?_ | refine v_iadd hz dX0_leastEdits_143 ?_
          refine v_iload hz dX0_leastEdits_144 rfl ?_
          refine v_iastN hz (by assumption) (by assumption) (by omega) (by decide) dX0_leastEdits_146 ?_
          refine v_iload hz dX0_leastEdits_147 rfl ?_
          refine v_istore hz dX0_leastEdits_149 (by decide) rfl ?_
          first | refine v_iincN hz 1 dX0_leastEdits_151 (by decide) rfl (by decide) rfl ?_ | refine v_iinc hz dX0_leastEdits_151 rfl (by decide) rfl ?_
          refine v_goto hz 53 dX0_leastEdits_154 (by decide) ?_
          exact v_sub (ih (j + 1) _ (by omega) (by omega) hF.put (hrw.put (by rw [lss]; first | (rw [if_neg c86]; omega) | (rw [if_pos (by omega)]; omega)))) ⟨rfl, rfl, rfl, rfl, rfl, rfl, trivial⟩
      · refine v_iload hz dX0_leastEdits_107 rfl ?_
        refine v_ic (v := nI 1) hz dX0_leastEdits_109 (by decide) ?_
        first | with_reducible refine v_iaddN hz dX0_leastEdits_110 ?_ | refine v_iadd hz dX0_leastEdits_110 ?_
        refine v_istore hz dX0_leastEdits_111 (by decide) rfl ?_
        refine v_aload_n hz dX0_leastEdits_113 rfl ?_
        refine v_getR hz fX0_19 (by assumption) (by assumption) dX0_leastEdits_114 ?_
        refine v_iload hz dX0_leastEdits_117 rfl ?_
        refine v_ialdN hz (by assumption) (by assumption) (by omega) (by decide) dX0_leastEdits_119 ?_
        refine v_top (y := nI (lev T1 T2 (i + 1) j)) (by rw [hrw j (by omega), if_pos (Nat.le_refl _)]) ?_
        refine v_iload hz dX0_leastEdits_120 rfl ?_
        first | with_reducible refine v_icmp_geN hz 136 (by omega) (by omega) dX0_leastEdits_122 (by decide) (fun c122 => ?_) (fun c122 => ?_) | refine v_icmp_ge hz 136 dX0_leastEdits_122 (by decide) (fun c122 => ?_) (fun c122 => ?_)
        · refine v_aload_n hz dX0_leastEdits_136 rfl ?_
          refine v_getR hz fX0_19 (by assumption) (by assumption) dX0_leastEdits_137 ?_
          refine v_iload hz dX0_leastEdits_140 rfl ?_
          refine v_ic (v := nI 1) hz dX0_leastEdits_142 (by decide) ?_
          first | with_reducible refine v_iaddN hz dX0_leastEdits_143 ?_ | refine v_iadd hz dX0_leastEdits_143 ?_
          refine v_iload hz dX0_leastEdits_144 rfl ?_
          refine v_iastN hz (by assumption) (by assumption) (by omega) (by decide) dX0_leastEdits_146 ?_
          refine v_iload hz dX0_leastEdits_147 rfl ?_
          refine v_istore hz dX0_leastEdits_149 (by decide) rfl ?_
          first | refine v_iincN hz 1 dX0_leastEdits_151 (by decide) rfl (by decide) rfl ?_ | refine v_iinc hz dX0_leastEdits_151 rfl (by decide) rfl ?_
          refine v_goto hz 53 dX0_leastEdits_154 (by decide) ?_
          exact v_sub (ih (j + 1) _ (by omega) (by omega) hF.put (hrw.put (by rw [lss]; first | (rw [if_neg c86]; omega) | (rw [if_pos (by omega)]; omega)))) ⟨rfl, rfl, rfl, rfl, rfl, rfl, trivial⟩
        · refine v_aload_n hz dX0_leastEdits_125 rfl ?_
          refine v_getR hz fX0_19 (by assumption) (by assumption) dX0_leastEdits_126 ?_
          refine v_iload hz dX0_leastEdits_129 rfl ?_
          refine v_ialdN hz (by assumption) (by assumption) (by omega) (by decide) dX0_leastEdits_131 ?_
          refine v_top (y := nI (lev T1 T2 (i + 1) j)) (by rw [hrw j (by omega), if_pos (Nat.le_refl _)]) ?_
          refine v_ic (v := nI 1) hz dX0_leastEdits_132 (by decide) ?_
          first | with_reducible refine v_iaddN hz dX0_leastEdits_133 ?_ | refine v_iadd hz dX0_leastEdits_133 ?_
          refine v_istore hz dX0_leastEdits_134 (by decide) rfl ?_
          refine v_aload_n hz dX0_leastEdits_136 rfl ?_
          refine v_getR hz fX0_19 (by assumption) (by assumption) dX0_leastEdits_137 ?_
          refine v_iload hz dX0_leastEdits_140 rfl ?_
          refine v_ic (v := nI 1) hz dX0_leastEdits_142 (by decide) ?_
          first | with_reducible refine v_iaddN hz dX0_leastEdits_143 ?_ | refine v_iadd hz dX0_leastEdits_143 ?_
          refine v_iload hz dX0_leastEdits_144 rfl ?_
          refine v_iastN hz (by assumption) (by assumption) (by omega) (by decide) dX0_leastEdits_146 ?_
          refine v_iload hz dX0_leastEdits_147 rfl ?_
          refine v_istore hz dX0_leastEdits_149 (by decide) rfl ?_
          first | refine v_iincN hz 1 dX0_leastEdits_151 (by decide) rfl (by decide) rfl ?_ | refine v_iinc hz dX0_leastEdits_151 rfl (by decide) rfl ?_
          refine v_goto hz 53 dX0_leastEdits_154 (by decide) ?_
          exact v_sub (ih (j + 1) _ (by omega) (by omega) hF.put (hrw.put (by rw [lss]; first | (rw [if_neg c86]; omega) | (rw [if_pos (by omega)]; omega)))) ⟨rfl, rfl, rfl, rfl, rfl, rfl, trivial⟩
    · refine v_iload hz dX0_leastEdits_89 rfl ?_
      refine v_goto hz 98 dX0_leastEdits_91 (by decide) ?_
      refine v_istore hz dX0_leastEdits_98 (by decide) rfl ?_
      refine v_iload hz dX0_leastEdits_100 rfl ?_
      refine v_iload hz dX0_leastEdits_102 rfl ?_
      first | with_reducible refine v_icmp_geN hz 113 (by omega) (by omega) dX0_leastEdits_104 (by decide) (fun c104 => ?_) (fun c104 => ?_) | refine v_icmp_ge hz 113 dX0_leastEdits_104 (by decide) (fun c104 => ?_) (fun c104 => ?_)
      · refine v_aload_n hz dX0_leastEdits_113 rfl ?_
        refine v_getR hz fX0_19 (by assumption) (by assumption) dX0_leastEdits_114 ?_
        refine v_iload hz dX0_leastEdits_117 rfl ?_
        refine v_ialdN hz (by assumption) (by assumption) (by omega) (by decide) dX0_leastEdits_119 ?_
        refine v_top (y := nI (lev T1 T2 (i + 1) j)) (by rw [hrw j (by omega), if_pos (Nat.le_refl _)]) ?_
        refine v_iload hz dX0_leastEdits_120 rfl ?_
        first | with_reducible refine v_icmp_geN hz 136 (by omega) (by omega) dX0_leastEdits_122 (by decide) (fun c122 => ?_) (fun c122 => ?_) | refine v_icmp_ge hz 136 dX0_leastEdits_122 (by decide) (fun c122 => ?_) (fun c122 => ?_)
        · refine v_aload_n hz dX0_leastEdits_136 rfl ?_
          refine v_getR hz fX0_19 (by assumption) (by assumption) dX0_leastEdits_137 ?_
          refine v_iload hz dX0_leastEdits_140 rfl ?_
          refine v_ic (v := nI 1) hz dX0_leastEdits_142 (by decide) ?_
          first | with_reducible refine v_iaddN hz dX0_leastEdits_143 ?_ | refine v_iadd hz dX0_leastEdits_143 ?_
          refine v_iload hz dX0_leastEdits_144 rfl ?_
          refine v_iastN hz (by assumption) (by assumption) (by omega) (by decide) dX0_leastEdits_146 ?_
          refine v_iload hz dX0_leastEdits_147 rfl ?_
          refine v_istore hz dX0_leastEdits_149 (by decide) rfl ?_
          first | refine v_iincN hz 1 dX0_leastEdits_151 (by decide) rfl (by decide) rfl ?_ | refine v_iinc hz dX0_leastEdits_151 rfl (by decide) rfl ?_
          refine v_goto hz 53 dX0_leastEdits_154 (by decide) ?_
          exact v_sub (ih (j + 1) _ (by omega) (by omega) hF.put (hrw.put (by rw [lss]; first | (rw [if_neg c86]; omega) | (rw [if_pos (by omega)]; omega)))) ⟨rfl, rfl, rfl, rfl, rfl, rfl, trivial⟩
        · refine v_aload_n hz dX0_leastEdits_125 rfl ?_
          refine v_getR hz fX0_19 (by assumption) (by assumption) dX0_leastEdits_126 ?_
          refine v_iload hz dX0_leastEdits_129 rfl ?_
          refine v_ialdN hz (by assumption) (by assumption) (by omega) (by decide) dX0_leastEdits_131 ?_
          refine v_top (y := nI (lev T1 T2 (i + 1) j)) (by rw [hrw j (by omega), if_pos (Nat.le_refl _)]) ?_
          refine v_ic (v := nI 1) hz dX0_leastEdits_132 (by decide) ?_
          first | with_reducible refine v_iaddN hz dX0_leastEdits_133 ?_ | refine v_iadd hz dX0_leastEdits_133 ?_
          refine v_istore hz dX0_leastEdits_134 (by decide) rfl ?_
          refine v_aload_n hz dX0_leastEdits_136 rfl ?_
          refine v_getR hz fX0_19 (by assumption) (by assumption) dX0_leastEdits_137 ?_
          refine v_iload hz dX0_leastEdits_140 rfl ?_
          refine v_ic (v := nI 1) hz dX0_leastEdits_142 (by decide) ?_
          first | with_reducible refine v_iaddN hz dX0_leastEdits_143 ?_ | refine v_iadd hz dX0_leastEdits_143 ?_
          refine v_iload hz dX0_leastEdits_144 rfl ?_
          refine v_iastN hz (by assumption) (by assumption) (by omega) (by decide) dX0_leastEdits_146 ?_
          refine v_iload hz dX0_leastEdits_147 rfl ?_
          refine v_istore hz dX0_leastEdits_149 (by decide) rfl ?_
          first | refine v_iincN hz 1 dX0_leastEdits_151 (by decide) rfl (by decide) rfl ?_ | refine v_iinc hz dX0_leastEdits_151 rfl (by decide) rfl ?_
          refine v_goto hz 53 dX0_leastEdits_154 (by decide) ?_
          exact v_sub (ih (j + 1) _ (by omega) (by omega) hF.put (hrw.put (by rw [lss]; first | (rw [if_neg c86]; omega) | (rw [if_pos (by omega)]; omega)))) ⟨rfl, rfl, rfl, rfl, rfl, rfl, trivial⟩
      · refine v_iload hz dX0_leastEdits_107 rfl ?_
        refine v_ic (v := nI 1) hz dX0_leastEdits_109 (by decide) ?_
        first | with_reducible refine v_iaddN hz dX0_leastEdits_110 ?_ | refine v_iadd hz dX0_leastEdits_110 ?_
        refine v_istore hz dX0_leastEdits_111 (by decide) rfl ?_
        refine v_aload_n hz dX0_leastEdits_113 rfl ?_
        refine v_getR hz fX0_19 (by assumption) (by assumption) dX0_leastEdits_114 ?_
        refine v_iload hz dX0_leastEdits_117 rfl ?_
        refine v_ialdN hz (by assumption) (by assumption) (by omega) (by decide) dX0_leastEdits_119 ?_
        refine v_top (y := nI (lev T1 T2 (i + 1) j)) (by rw [hrw j (by omega), if_pos (Nat.le_refl _)]) ?_
        refine v_iload hz dX0_leastEdits_120 rfl ?_
        first | with_reducible refine v_icmp_geN hz 136 (by omega) (by omega) dX0_leastEdits_122 (by decide) (fun c122 => ?_) (fun c122 => ?_) | refine v_icmp_ge hz 136 dX0_leastEdits_122 (by decide) (fun c122 => ?_) (fun c122 => ?_)
        · refine v_aload_n hz dX0_leastEdits_136 rfl ?_
          refine v_getR hz fX0_19 (by assumption) (by assumption) dX0_leastEdits_137 ?_
          refine v_iload hz dX0_leastEdits_140 rfl ?_
          refine v_ic (v := nI 1) hz dX0_leastEdits_142 (by decide) ?_
          first | with_reducible refine v_iaddN hz dX0_leastEdits_143 ?_ | refine v_iadd hz dX0_leastEdits_143 ?_
          refine v_iload hz dX0_leastEdits_144 rfl ?_
          refine v_iastN hz (by assumption) (by assumption) (by omega) (by decide) dX0_leastEdits_146 ?_
          refine v_iload hz dX0_leastEdits_147 rfl ?_
          refine v_istore hz dX0_leastEdits_149 (by decide) rfl ?_
          first | refine v_iincN hz 1 dX0_leastEdits_151 (by decide) rfl (by decide) rfl ?_ | refine v_iinc hz dX0_leastEdits_151 rfl (by decide) rfl ?_
          refine v_goto hz 53 dX0_leastEdits_154 (by decide) ?_
          exact v_sub (ih (j + 1) _ (by omega) (by omega) hF.put (hrw.put (by rw [lss]; first | (rw [if_neg c86]; omega) | (rw [if_pos (by omega)]; omega)))) ⟨rfl, rfl, rfl, rfl, rfl, rfl, trivial⟩
        · refine v_aload_n hz dX0_leastEdits_125 rfl ?_
          refine v_getR hz fX0_19 (by assumption) (by assumption) dX0_leastEdits_126 ?_
          refine v_iload hz dX0_leastEdits_129 rfl ?_
          refine v_ialdN hz (by assumption) (by assumption) (by omega) (by decide) dX0_leastEdits_131 ?_
          refine v_top (y := nI (lev T1 T2 (i + 1) j)) (by rw [hrw j (by omega), if_pos (Nat.le_refl _)]) ?_
          refine v_ic (v := nI 1) hz dX0_leastEdits_132 (by decide) ?_
          first | with_reducible refine v_iaddN hz dX0_leastEdits_133 ?_ | refine v_iadd hz dX0_leastEdits_133 ?_
          refine v_istore hz dX0_leastEdits_134 (by decide) rfl ?_
          refine v_aload_n hz dX0_leastEdits_136 rfl ?_
          refine v_getR hz fX0_19 (by assumption) (by assumption) dX0_leastEdits_137 ?_
          refine v_iload hz dX0_leastEdits_140 rfl ?_
          refine v_ic (v := nI 1) hz dX0_leastEdits_142 (by decide) ?_
          first | with_reducible refine v_iaddN hz dX0_leastEdits_143 ?_ | refine v_iadd hz dX0_leastEdits_143 ?_
          refine v_iload hz dX0_leastEdits_144 rfl ?_
          refine v_iastN hz (by assumption) (by assumption) (by omega) (by decide) dX0_leastEdits_146 ?_
          refine v_iload hz dX0_leastEdits_147 rfl ?_
          refine v_istore hz dX0_leastEdits_149 (by decide) rfl ?_
          first | refine v_iincN hz 1 dX0_leastEdits_151 (by decide) rfl (by decide) rfl ?_ | refine v_iinc hz dX0_leastEdits_151 rfl (by decide) rfl ?_
          refine v_goto hz 53 dX0_leastEdits_154 (by decide) ?_
          exact v_sub (ih (j + 1) _ (by omega) (by omega) hF.put (hrw.put (by rw [lss]; first | (rw [if_neg c86]; omega) | (rw [if_pos (by omega)]; omega)))) ⟨rfl, rfl, rfl, rfl, rfl, rfl, trivial⟩
set_option maxHeartbeats 4000000 in
set_option maxRecDepth 100000 in
theorem lp_X0_le1 {z : Zz} {κ : Kz} {I0 : Iz} {R : Rz} {J : Jz} {A : Nat → Nat} (ha : LAg κ R A) (hz : Am z cX0_leastEdits RX0 8 0) {b1 b2 L1 L2 D1 D2 : Nat} {T1 T2 : Nat → Nat} (hs1 : LSg κ R A b1) (hs2 : LSg κ R A b2) (hb1 : 200 ≤ b1) (hb2 : 200 ≤ b2) (h1 : csn I0 A b1 L1 D1 T1) (h2 : csn I0 A b2 L2 D2 T2) (hr : Rt z yX0_leastEdits (some .int) 0 0 (Si κ R J (fun r I1 => r = nI (lev T1 T2 L1 L2) ∧ Fe A I0 I1))) :
    ∀ (n i : Nat) (I : Iz), i ≤ L1 → L1 + 1 ≤ i + n → Fe A I0 I → (∀ k, k ≤ L2 → I (A 8) k = nI (lev T1 T2 i k)) → V z 8 0 0 25 [(0, .ref (A 5)), (1, .ref (A b1)), (2, .ref (A b2)), (3, .int (nI i))] [] κ I R J := by
  obtain ⟨hk, ⟨hR0, hK6, hN6, hrb⟩, ⟨hR1, hK7, hN7, hrr⟩, ⟨hR2, hK8, hN8, ho8⟩⟩ := id ha
  obtain ⟨sk, sR0, sK1, sN1, so, so1⟩ := id hs1
  obtain ⟨tk, tR0, tK1, tN1, to, to1⟩ := id hs2
  intro n
  induction n with
  | zero => intro i I hi hn; exact absurd hn (by omega)
  | succ n ih =>
  intro i I hi hn hF hrw
  have g1 : csn I A b1 L1 D1 T1 := h1.fa ha hF.fa hs1 hb1
  have g2 : csn I A b2 L2 D2 T2 := h2.fa ha hF.fa hs2 hb2
  have bL1 := h1.1
  have bL2 := h2.1
  refine v_iload_n hz dX0_leastEdits_25 rfl ?_
  refine v_aload_n hz dX0_leastEdits_26 rfl ?_
  refine v_getI hz fX0_59 (by assumption) dX0_leastEdits_27 ?_
  refine v_top g1.2.1 ?_
  first | with_reducible refine v_icmp_geN hz 163 (by omega) (by omega) dX0_leastEdits_30 (by decide) (fun c30 => ?_) (fun c30 => ?_) | refine v_icmp_ge hz 163 dX0_leastEdits_30 (by decide) (fun c30 => ?_) (fun c30 => ?_)
  · refine v_aload_n hz dX0_leastEdits_163 rfl ?_
    refine v_getR hz fX0_19 (by assumption) (by assumption) dX0_leastEdits_164 ?_
    refine v_aload_n hz dX0_leastEdits_167 rfl ?_
    refine v_getI hz fX0_59 (by assumption) dX0_leastEdits_168 ?_
    refine v_top g2.2.1 ?_
    refine v_ialdN hz (by assumption) (by assumption) (by omega) (by decide) dX0_leastEdits_171 ?_
    refine v_top (y := nI (lev T1 T2 L1 L2)) (by rw [show L1 = i by omega]; exact hrw L2 (Nat.le_refl _)) ?_
    exact v_iret hz hr dX0_leastEdits_172 ⟨rfl, hF⟩
  · refine v_aload_n hz dX0_leastEdits_33 rfl ?_
    refine v_getR hz fX0_19 (by assumption) (by assumption) dX0_leastEdits_34 ?_
    refine v_ic (v := nI 0) hz dX0_leastEdits_37 (by decide) ?_
    refine v_ialdN hz (by assumption) (by assumption) (by omega) (by decide) dX0_leastEdits_38 ?_
    refine v_top (y := nI (lev T1 T2 i 0)) (hrw 0 (by omega)) ?_
    refine v_istore hz dX0_leastEdits_39 (by decide) rfl ?_
    refine v_aload_n hz dX0_leastEdits_41 rfl ?_
    refine v_getR hz fX0_19 (by assumption) (by assumption) dX0_leastEdits_42 ?_
    refine v_ic (v := nI 0) hz dX0_leastEdits_45 (by decide) ?_
    refine v_iload_n hz dX0_leastEdits_46 rfl ?_
    refine v_ic (v := nI 1) hz dX0_leastEdits_47 (by decide) ?_
    first | with_reducible refine v_iaddN hz dX0_leastEdits_48 ?_ | refine v_iadd hz dX0_leastEdits_48 ?_
    refine v_iastN hz (by assumption) (by assumption) (by omega) (by decide) dX0_leastEdits_49 ?_
    refine v_ic (v := nI 0) hz dX0_leastEdits_50 (by decide) ?_
    refine v_istore hz dX0_leastEdits_51 (by decide) rfl ?_
    refine v_sub (lp_X0_le2 ha hz hs1 hs2 hb1 hb2 h1 h2 i (by omega) (fun I1 hF1 hrw1 => ?_) (L2 + 1) 0 _ (by omega) (by omega) hF.put (fun k hk => by
        by_cases e : k = 0
        · rw [e, u2_eq, if_pos (Nat.le_refl _), lev_s0]
        · rw [u2_at e, if_neg (by omega)]; exact hrw k hk)) ⟨rfl, rfl, rfl, rfl, rfl, rfl, trivial⟩
    refine v_iincN hz 1 dX0_leastEdits_157 (by decide) rfl (by decide) rfl ?_
    refine v_goto hz 25 dX0_leastEdits_160 (by decide) ?_
    exact v_sub (ih (i + 1) I1 (by omega) (by omega) hF1 (fun k hk => by rw [hrw1 k hk, if_pos hk])) ⟨rfl, rfl, rfl, rfl, trivial⟩
set_option maxHeartbeats 4000000 in
set_option maxRecDepth 100000 in
theorem cX0_leastEdits_ok (l : Launch) (g : Gz) (κ : Kz) (I : Iz) (R : Rz) (J : Jz) (A : Nat → Nat) (ha : LAg κ R A) (b1 b2 L1 L2 D1 D2 : Nat) (T1 T2 : Nat → Nat) (hs1 : LSg κ R A b1) (hs2 : LSg κ R A b2) (hb1 : 200 ≤ b1) (hb2 : 200 ≤ b2) (h1 : csn I A b1 L1 D1 T1) (h2 : csn I A b2 L2 D2 T2) : Ct l mX0_leastEdits 0 0 g [.ref (A 5), .ref (A b1), .ref (A b2)] κ I R J (Si κ R J (fun r I1 => r = nI (lev T1 T2 L1 L2) ∧ Fe A I I1)) := by
  refine ct_of (by decide) (Nat.le_of_ble_eq_true rfl) ?_
  intro z hz hr hrc hrs
  have hz : Am z cX0_leastEdits RX0 8 0 := hz
  have hr : Rt z yX0_leastEdits (some .int) 0 0 _ := hr
  show V z 8 0 0 0 [(0, .ref (A 5)), (1, .ref (A b1)), (2, .ref (A b2))] [] κ I R J
  obtain ⟨hk, ⟨hR0, hK6, hN6, hrb⟩, ⟨hR1, hK7, hN7, hrr⟩, ⟨hR2, hK8, hN8, ho8⟩⟩ := id ha
  refine v_ic (v := nI 0) hz dX0_leastEdits_0 (by decide) ?_
  refine v_istore_n hz dX0_leastEdits_1 (by decide) rfl ?_
  refine v_sub (lp_X0_le0 ha hz hs1 hs2 hb1 hb2 h1 h2 (fun I1 hF hrw => ?_) (L2 + 2) 0 I (by omega) (by omega) Fe.rf (fun k hk => absurd hk (by omega))) ⟨rfl, rfl, rfl, rfl, trivial⟩
  refine v_ic (v := nI 0) hz dX0_leastEdits_23 (by decide) ?_
  refine v_istore_n hz dX0_leastEdits_24 (by decide) rfl ?_
  exact v_sub (lp_X0_le1 ha hz hs1 hs2 hb1 hb2 h1 h2 hr (L1 + 1) 0 I1 (by omega) (by omega) hF (fun k hk => by rw [lev_0]; exact hrw k hk)) ⟨rfl, rfl, rfl, rfl, trivial⟩
set_option maxHeartbeats 4000000 in
set_option maxRecDepth 100000 in
theorem cX0_alikeOfWords_ok (l : Launch) (g : Gz) (κ : Kz) (I : Iz) (R : Rz) (J : Jz) (A : Nat → Nat) (ha : LAg κ R A) (b1 b2 L1 L2 D1 D2 : Nat) (T1 T2 : Nat → Nat) (hs1 : LSg κ R A b1) (hs2 : LSg κ R A b2) (hb1 : 200 ≤ b1) (hb2 : 200 ≤ b2) (h1 : csn I A b1 L1 D1 T1) (h2 : csn I A b2 L2 D2 T2) (hp : 0 < max L1 L2) : Ct l mX0_alikeOfWords 0 0 g [.ref (A 5), .ref (A b1), .ref (A b2)] κ I R J (Si κ R J (fun r I1 => r = nI (alk L1 T1 L2 T2) ∧ Fe A I I1)) := by
  refine ct_of (by decide) (Nat.le_of_ble_eq_true rfl) ?_
  intro z hz hr hrc hrs
  have hz : Am z cX0_alikeOfWords RX0 4 1 := hz
  have hr : Rt z yX0_alikeOfWords (some .int) 0 0 _ := hr
  show V z 4 0 0 0 [(0, .ref (A 5)), (1, .ref (A b1)), (2, .ref (A b2))] [] κ I R J
  obtain ⟨hk, ⟨hR0, hK6, hN6, hrb⟩, ⟨hR1, hK7, hN7, hrr⟩, ⟨hR2, hK8, hN8, ho8⟩⟩ := id ha
  obtain ⟨sk, sR0, sK1, sN1, so, so1⟩ := id hs1
  obtain ⟨tk, tR0, tK1, tN1, to, to1⟩ := id hs2
  have bL1 := h1.1
  have bL2 := h2.1
  have lv := lev_le T1 T2 L1 L2
  refine v_aload_n hz dX0_alikeOfWords_0 rfl ?_
  refine v_getI hz fX0_59 (by assumption) dX0_alikeOfWords_1 ?_
  refine v_top h1.2.1 ?_
  refine v_aload_n hz dX0_alikeOfWords_4 rfl ?_
  refine v_getI hz fX0_59 (by assumption) dX0_alikeOfWords_5 ?_
  refine v_top h2.2.1 ?_
  refine v_mmax hz (tg_mem 519 (by decide +kernel) rfl) (tg_mem 520 (by decide +kernel) rfl) (tg_mem 82 (by decide +kernel) rfl) (tg_mem 521 (by decide +kernel) rfl) (by decide) (Nat.le_of_ble_eq_true rfl) ⟨Nat.zero_le _, Nat.zero_le _⟩ dX0_alikeOfWords_8 ?_
  refine v_top (max_N (by omega) (by omega)) ?_
  refine v_istore_n hz dX0_alikeOfWords_11 (by decide) rfl ?_
  refine v_iload_n hz dX0_alikeOfWords_12 rfl ?_
  refine v_ic (v := nI 1) hz dX0_alikeOfWords_13 (by decide) ?_
  first | with_reducible refine v_icmp_geN hz 19 (by omega) (by omega) dX0_alikeOfWords_14 (by decide) (fun c14 => ?_) (fun c14 => ?_) | refine v_icmp_ge hz 19 dX0_alikeOfWords_14 (by decide) (fun c14 => ?_) (fun c14 => ?_)
  · refine v_bi (v := nI 10) hz dX0_alikeOfWords_19 (by decide) ?_
    refine v_aload_n hz dX0_alikeOfWords_21 rfl ?_
    refine v_aload_n hz dX0_alikeOfWords_22 rfl ?_
    refine v_aload_n hz dX0_alikeOfWords_23 rfl ?_
    refine v_callVi hz lX0_70 (cX0_leastEdits_ok _ _ _ _ _ _ A ha b1 b2 L1 L2 D1 D2 T1 T2 hs1 hs2 hb1 hb2 h1 h2) (by assumption) rfl rfl (Nat.le_of_ble_eq_true rfl) (by decide) ⟨Nat.zero_le _, Nat.zero_le _⟩ dX0_alikeOfWords_24 (fun r I1 h24 => ?_)
    obtain ⟨rfl, hF⟩ := h24
    first | with_reducible refine v_imulN hz dX0_alikeOfWords_27 ?_ | refine v_imul hz dX0_alikeOfWords_27 ?_
    refine v_iload_n hz dX0_alikeOfWords_28 rfl ?_
    first | with_reducible refine v_iaddN hz dX0_alikeOfWords_29 ?_ | refine v_iadd hz dX0_alikeOfWords_29 ?_
    refine v_ic (v := nI 1) hz dX0_alikeOfWords_30 (by decide) ?_
    refine v_isubN hz (by omega) dX0_alikeOfWords_31 ?_
    refine v_iload_n hz dX0_alikeOfWords_32 rfl ?_
    refine v_idivN hz (by omega) (by omega) (by omega) dX0_alikeOfWords_33 ?_
    exact v_iret hz hr dX0_alikeOfWords_34 ⟨rfl, hF⟩
  · exact absurd (show 1 ≤ max L1 L2 from hp) c14
set_option maxHeartbeats 4000000 in
set_option maxRecDepth 100000 in
theorem cX0_costOfBoth_ok (l : Launch) (g : Gz) (κ : Kz) (I : Iz) (R : Rz) (J : Jz) (A : Nat → Nat) (ha : LAg κ R A) (w : Nat) (b1 b2 L1 L2 D1 D2 : Nat) (T1 T2 : Nat → Nat) (hs1 : LSg κ R A b1) (hs2 : LSg κ R A b2) (hb1 : 200 ≤ b1) (hb2 : 200 ≤ b2) (h1 : csn I A b1 L1 D1 T1) (h2 : csn I A b2 L2 D2 T2) : Ct l mX0_costOfBoth 0 0 g [.ref (A 5), .ref (A b1), .ref (A b2), .int (nI w)] κ I R J (Si κ R J (fun r I1 => r = nI (bcq 1000000 w L1 D1 T1 L2 D2 T2) ∧ Fe A I I1)) := by
  refine ct_of (by decide) (Nat.le_of_ble_eq_true rfl) ?_
  intro z hz hr hrc hrs
  have hz : Am z cX0_costOfBoth RX0 4 2 := hz
  have hr : Rt z yX0_costOfBoth (some .int) 0 0 _ := hr
  show V z 4 0 0 0 [(0, .ref (A 5)), (1, .ref (A b1)), (2, .ref (A b2)), (3, .int (nI w))] [] κ I R J
  obtain ⟨hk, ⟨hR0, hK6, hN6, hrb⟩, ⟨hR1, hK7, hN7, hrr⟩, ⟨hR2, hK8, hN8, ho8⟩⟩ := id ha
  obtain ⟨sk, sR0, sK1, sN1, so, so1⟩ := id hs1
  obtain ⟨tk, tR0, tK1, tN1, to, to1⟩ := id hs2
  have bL1 := h1.1
  have bL2 := h2.1
  have bD1 := h1.2.2.2.1
  have bD2 := h2.2.2.2.1
  refine v_aload_n hz dX0_costOfBoth_0 rfl ?_
  refine v_callVi hz lX0_85 (cX6_isWord_ok _ _ _ _ _ _ A b1 hs1 L1 bL1 h1.2.1) (by assumption) rfl rfl (Nat.le_of_ble_eq_true rfl) (by decide) ⟨Nat.zero_le _, Nat.zero_le _⟩ dX0_costOfBoth_1 (fun r I1 hw1 => ?_)
  obtain ⟨rfl, rfl⟩ := hw1
  refine v_aload_n hz dX0_costOfBoth_4 rfl ?_
  refine v_callVi hz lX0_85 (cX6_isWord_ok _ _ _ _ _ _ A b2 hs2 L2 bL2 h2.2.1) (by assumption) rfl rfl (Nat.le_of_ble_eq_true rfl) (by decide) ⟨Nat.zero_le _, Nat.zero_le _⟩ dX0_costOfBoth_5 (fun r I1 h5 => ?_)
  obtain ⟨rfl, rfl⟩ := h5
  refine v_icmp_eq hz 14 dX0_costOfBoth_8 (by decide) (fun c10 => ?_) (fun c10 => ?_)
  · refine v_aload_n hz dX0_costOfBoth_14 rfl ?_
    refine v_callVi hz lX0_85 (cX6_isWord_ok _ _ _ _ _ _ A b1 hs1 L1 bL1 h1.2.1) (by assumption) rfl rfl (Nat.le_of_ble_eq_true rfl) (by decide) ⟨Nat.zero_le _, Nat.zero_le _⟩ dX0_costOfBoth_15 (fun r I1 h15 => ?_)
    obtain ⟨rfl, rfl⟩ := h15
    first | with_reducible refine v_if_eqB hz 28 dX0_costOfBoth_18 (by decide) (fun c21 => ?_) (fun c21 => ?_) | with_reducible refine v_if_eqN hz 28 (by omega) dX0_costOfBoth_18 (by decide) (fun c21 => ?_) (fun c21 => ?_) | refine v_if_eq hz 28 dX0_costOfBoth_18 (by decide) (fun c21 => ?_) (fun c21 => ?_)
    · refine v_aload_n hz dX0_costOfBoth_28 rfl ?_
      refine v_getI hz fX0_93 (by assumption) dX0_costOfBoth_29 ?_
      refine v_top h1.2.2.1 ?_
      refine v_aload_n hz dX0_costOfBoth_32 rfl ?_
      refine v_getI hz fX0_93 (by assumption) dX0_costOfBoth_33 ?_
      refine v_top h2.2.2.1 ?_
      first | with_reducible refine v_icmp_neN hz 43 (by omega) (by omega) dX0_costOfBoth_36 (by decide) (fun c36 => ?_) (fun c36 => ?_) | refine v_icmp_ne hz 43 dX0_costOfBoth_36 (by decide) (fun c36 => ?_) (fun c36 => ?_)
      · refine v_iload_n hz dX0_costOfBoth_43 rfl ?_
        exact v_iret hz hr dX0_costOfBoth_44 (by first | exact ⟨congrArg nI (bcq_t c10 c21 (by omega)), Fe.rf⟩ | exact ⟨congrArg nI (bcq_u c10 c21 (by omega)), Fe.rf⟩)
      · refine v_ic (v := nI 0) hz dX0_costOfBoth_39 (by decide) ?_
        refine v_goto hz 44 dX0_costOfBoth_40 (by decide) ?_
        exact v_iret hz hr dX0_costOfBoth_44 (by first | exact ⟨congrArg nI (bcq_t c10 c21 (by omega)), Fe.rf⟩ | exact ⟨congrArg nI (bcq_u c10 c21 (by omega)), Fe.rf⟩)
    · refine v_aload_n hz dX0_costOfBoth_21 rfl ?_
      refine v_aload_n hz dX0_costOfBoth_22 rfl ?_
      refine v_aload_n hz dX0_costOfBoth_23 rfl ?_
      refine v_callVi hz lX0_90 (cX0_alikeOfWords_ok _ _ _ _ _ _ A ha b1 b2 L1 L2 D1 D2 T1 T2 hs1 hs2 hb1 hb2 h1 h2 (by omega)) (by assumption) rfl rfl (Nat.le_of_ble_eq_true rfl) (by decide) ⟨Nat.zero_le _, Nat.zero_le _⟩ dX0_costOfBoth_24 (fun r I1 h24 => ?_)
      obtain ⟨rfl, hF⟩ := h24
      exact v_iret hz hr dX0_costOfBoth_27 ⟨congrArg nI (bcq_w c10 c21), hF⟩
  · refine v_ldc (v := 1000000) hz (tg_mem 543 (by decide +kernel) rfl) dX0_costOfBoth_11 ?_
    refine v_top (y := nI 1000000) rfl ?_
    exact v_iret hz hr dX0_costOfBoth_13 ⟨congrArg nI (bcq_ne c10), Fe.rf⟩
