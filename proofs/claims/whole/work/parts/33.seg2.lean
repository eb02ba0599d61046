/-! ===== the class: grams shared, grams of a word ===== -/
theorem cnt_mono {G : Nat → Nat} {c : Nat} : ∀ {m n : Nat}, m ≤ n → cnt G m c ≤ cnt G n c := by
  intro m n h
  obtain ⟨d, rfl⟩ : ∃ d, n = m + d := ⟨n - m, by omega⟩
  clear h
  induction d with
  | zero => exact Nat.le_refl _
  | succ d ih =>
    show _ ≤ cnt G (m + d) c + _
    omega
def sx (G : Nat → Nat) (n i c : Nat) : Nat := cnt G n c - cnt G i c
theorem sx_s {G : Nat → Nat} {n i c : Nat} (h : i < n) : sx G n i c = sx G n (i + 1) c + (if G i = c then 1 else 0) := by
  have h1 : cnt G (i + 1) c = cnt G i c + (if G i = c then 1 else 0) := rfl
  have h2 := cnt_mono (G := G) (c := c) (show i + 1 ≤ n by omega)
  unfold sx
  omega
theorem sx_n (G : Nat → Nat) (n c : Nat) : sx G n n c = 0 := Nat.sub_self _
theorem sx_0 (G : Nat → Nat) (n c : Nat) : sx G n 0 c = cnt G n c := Nat.sub_zero _
theorem sx_z {G : Nat → Nat} {n c : Nat} : ∀ (d j : Nat), n ≤ j + d → j ≤ n → (∀ k, j ≤ k → k < n → G k ≠ c) → sx G n j c = 0
  | 0, j, h, h', _ => by rw [show j = n by omega]; exact sx_n G n c
  | d + 1, j, h, h', hk => by
    by_cases e : j = n
    · rw [e]; exact sx_n G n c
    · rw [sx_s (by omega), if_neg (hk j (Nat.le_refl j) (by omega)), sx_z d (j + 1) (by omega) (by omega) (fun k a b => hk k (by omega) b)]
/-- how many grams two counts share, over the class's codes -/
def shC (a b : Nat → Nat) : Nat := smw (fun c => min (a c) (b c)) 729
theorem shC_eq {a b a' b' : Nat → Nat} {c0 : Nat} (h0 : c0 < 729) (ha : ∀ c, a c = a' c + (if c0 = c then 1 else 0)) (hb : ∀ c, b c = b' c + (if c0 = c then 1 else 0)) : shC a b = shC a' b' + 1 := by
  unfold shC
  rw [smw_eq, smw_eq, sm_bump (f := fun c => min (a' c) (b' c)) (c := c0) (d := 1) (fun j hj => by rw [ha, hb, if_neg (Ne.symm hj)]; rfl) (by rw [ha, hb, if_pos rfl]; omega) 729, if_pos h0]
theorem shC_l {a b a' : Nat → Nat} {c0 : Nat} (ha : ∀ c, a c = a' c + (if c0 = c then 1 else 0)) (hb : b c0 = 0) : shC a b = shC a' b := by
  unfold shC
  congr 1
  funext c
  rw [ha]
  by_cases e : c0 = c
  · subst e; rw [hb]; omega
  · rw [if_neg e]; rfl
theorem shC_r {a b b' : Nat → Nat} {c0 : Nat} (hb : ∀ c, b c = b' c + (if c0 = c then 1 else 0)) (ha : a c0 = 0) : shC a b = shC a b' := by
  unfold shC
  congr 1
  funext c
  rw [hb]
  by_cases e : c0 = c
  · subst e; rw [ha]; omega
  · rw [if_neg e]; rfl
theorem shC_z {a b : Nat → Nat} (h : (∀ c, a c = 0) ∨ ∀ c, b c = 0) : shC a b = 0 := by
  unfold shC
  rw [smw_eq]
  have : ∀ n, sm (fun c => min (a c) (b c)) n = 0 := by
    intro n
    induction n with
    | zero => rfl
    | succ n ih =>
      rw [sm, ih]
      rcases h with h | h <;> rw [h] <;> omega
  exact this 729
theorem ccode_lt {L : Nat} {T : Nat → Nat} {k : Nat} (h : ltr L T) (hk : k ≤ L) : ccode (gp L T k) < 729 := by
  have := gp_lt h hk
  unfold ccode
  omega
theorem ln_letter {c : Nat} (h : 97 ≤ c) : nI c - nI 97 + nI 1 = nI (c - 96) := by
  rw [pk_sub h, nI_add, show c - 97 + 1 = c - 96 by omega]
theorem gn_code {x y : Nat} : nI x * nI 27 + nI y = nI (27 * x + y) := by
  rw [pk_mul, nI_add, Nat.mul_comm]
set_option maxHeartbeats 4000000 in
set_option maxRecDepth 100000 in
theorem lp_X5_sharedWith {z : Zz} {κ : Kz} {I : Iz} {R : Rz} {J : Jz} {A : Nat → Nat} (hz : Am z cX5_sharedWith RX5 7 0) {b b2 n1 n2 : Nat} {G1 G2 : Nat → Nat} (hg : LGg κ R A b) (hg2 : LGg κ R A b2) (h1 : cgr I A b n1 G1) (h2 : cgr I A b2 n2 G2) (hr : Rt z yX5_sharedWith (some .int) 0 0 (Si κ R J (fun r I1 => r = nI (shC (cnt G1 n1) (cnt G2 n2)) ∧ I1 = I))) :
    ∀ n sh i j : Nat, i ≤ n1 → j ≤ n2 → n1 + n2 + 1 ≤ i + j + n → sh + shC (sx G1 n1 i) (sx G2 n2 j) = shC (cnt G1 n1) (cnt G2 n2) → V z 7 0 0 7 [(0, .ref (A b)), (1, .ref (A b2)), (2, .int (nI sh)), (3, .int (nI i)), (4, .int (nI j))] [] κ I R J := by
  obtain ⟨hk, ho, ⟨hR0, hK1, hN1, ho1⟩, ⟨hR1, hK2, hN2, ho2⟩, hrow⟩ := id hg
  obtain ⟨hkb, hob, ⟨hR0b, hK1b, hN1b, ho1b⟩, ⟨hR1b, hK2b, hN2b, ho2b⟩, hrowb⟩ := id hg2
  obtain ⟨hn1, e4, hG1, hord1⟩ := h1
  obtain ⟨hn2, f4, hG2, hord2⟩ := h2
  intro n
  induction n with
  | zero => intro sh i j hi hj hn; exact absurd hn (by omega)
  | succ n ih =>
  intro sh i j hi hj hn hsum
  refine v_iload_n hz dX5_sharedWith_7 rfl ?_
  refine v_aload_n hz dX5_sharedWith_8 rfl ?_
  refine v_getI hz fX5_44 (by assumption) dX5_sharedWith_9 ?_
  refine v_top e4 ?_
  first | with_reducible refine v_icmp_geN hz 74 (by omega) (by omega) dX5_sharedWith_12 (by decide) (fun c12 => ?_) (fun c12 => ?_) | refine v_icmp_ge hz 74 dX5_sharedWith_12 (by decide) (fun c12 => ?_) (fun c12 => ?_)
  · refine v_iload_n hz dX5_sharedWith_74 rfl ?_
    exact v_iret hz hr dX5_sharedWith_75 ⟨by rw [← hsum, shC_z (by first | exact Or.inl (fun c => by rw [show i = n1 by omega]; exact sx_n G1 n1 c) | exact Or.inr (fun c => by rw [show j = n2 by omega]; exact sx_n G2 n2 c))]; rfl, rfl⟩
  · refine v_iload hz dX5_sharedWith_15 rfl ?_
    refine v_aload_n hz dX5_sharedWith_17 rfl ?_
    refine v_getI hz fX5_44 (by assumption) dX5_sharedWith_18 ?_
    refine v_top f4 ?_
    first | with_reducible refine v_icmp_geN hz 74 (by omega) (by omega) dX5_sharedWith_21 (by decide) (fun c21 => ?_) (fun c21 => ?_) | refine v_icmp_ge hz 74 dX5_sharedWith_21 (by decide) (fun c21 => ?_) (fun c21 => ?_)
    · refine v_iload_n hz dX5_sharedWith_74 rfl ?_
      exact v_iret hz hr dX5_sharedWith_75 ⟨by rw [← hsum, shC_z (by first | exact Or.inl (fun c => by rw [show i = n1 by omega]; exact sx_n G1 n1 c) | exact Or.inr (fun c => by rw [show j = n2 by omega]; exact sx_n G2 n2 c))]; rfl, rfl⟩
    · refine v_aload_n hz dX5_sharedWith_24 rfl ?_
      refine v_getR hz fX5_18 (by assumption) (by assumption) dX5_sharedWith_25 ?_
      refine v_iload_n hz dX5_sharedWith_28 rfl ?_
      refine v_ialdN hz (by assumption) (by assumption) (by omega) (by decide) dX5_sharedWith_29 ?_
      refine v_top (hG1 i (by omega)).1 ?_
      refine v_istore hz dX5_sharedWith_30 (by decide) rfl ?_
      refine v_aload_n hz dX5_sharedWith_32 rfl ?_
      refine v_getR hz fX5_18 (by assumption) (by assumption) dX5_sharedWith_33 ?_
      refine v_iload hz dX5_sharedWith_36 rfl ?_
      refine v_ialdN hz (by assumption) (by assumption) (by omega) (by decide) dX5_sharedWith_38 ?_
      refine v_top (hG2 j (by omega)).1 ?_
      have c0b := (hG1 i (by omega)).2
      have c1b := (hG2 j (by omega)).2
      refine v_istore hz dX5_sharedWith_39 (by decide) rfl ?_
      refine v_iload hz dX5_sharedWith_41 rfl ?_
      refine v_iload hz dX5_sharedWith_43 rfl ?_
      first | with_reducible refine v_icmp_neN hz 51 (by omega) (by omega) dX5_sharedWith_45 (by decide) (fun c45 => ?_) (fun c45 => ?_) | refine v_icmp_ne hz 51 dX5_sharedWith_45 (by decide) (fun c45 => ?_) (fun c45 => ?_)
      · first
        | (exfalso; omega)
        | (refine v_iload hz dX5_sharedWith_51 rfl ?_
           refine v_iload hz dX5_sharedWith_53 rfl ?_
           first | with_reducible refine v_icmp_gtN hz 61 (by omega) (by omega) dX5_sharedWith_55 (by decide) (fun c55 => ?_) (fun c55 => ?_) | refine v_icmp_gt hz 61 dX5_sharedWith_55 (by decide) (fun c55 => ?_) (fun c55 => ?_)
           · first
             | (exfalso; omega)
             | (refine v_iload hz dX5_sharedWith_61 rfl ?_
                refine v_iload hz dX5_sharedWith_63 rfl ?_
                first | with_reducible refine v_icmp_gtN hz 71 (by omega) (by omega) dX5_sharedWith_65 (by decide) (fun c65 => ?_) (fun c65 => ?_) | refine v_icmp_gt hz 71 dX5_sharedWith_65 (by decide) (fun c65 => ?_) (fun c65 => ?_)
                · first
                  | (exfalso; omega)
                  | (refine v_goto hz 7 dX5_sharedWith_71 (by decide) ?_
                     first
                     | (exact v_sub (ih (sh + 1) (i + 1) (j + 1) (by omega) (by omega) (by omega) (by have := shC_eq (a := sx G1 n1 i) (b := sx G2 n2 j) (a' := sx G1 n1 (i + 1)) (b' := sx G2 n2 (j + 1)) c0b (fun c => sx_s (by omega)) (fun c => by rw [show G1 i = G2 j by omega]; exact sx_s (by omega)); omega)) ⟨rfl, rfl, rfl, rfl, rfl, trivial⟩)
                     | (exact v_sub (ih sh (i + 1) j (by omega) (by omega) (by omega) (by have := shC_l (a := sx G1 n1 i) (b := sx G2 n2 j) (a' := sx G1 n1 (i + 1)) (c0 := G1 i) (fun c => sx_s (by omega)) (sx_z n2 j (by omega) (by omega) (fun k a b => by have := hord2 j k a b; omega)); omega)) ⟨rfl, rfl, rfl, rfl, rfl, trivial⟩)
                     | (exact v_sub (ih sh i (j + 1) (by omega) (by omega) (by omega) (by have := shC_r (a := sx G1 n1 i) (b := sx G2 n2 j) (b' := sx G2 n2 (j + 1)) (c0 := G2 j) (fun c => sx_s (by omega)) (sx_z n1 i (by omega) (by omega) (fun k a b => by have := hord1 i k a b; omega)); omega)) ⟨rfl, rfl, rfl, rfl, rfl, trivial⟩))
                · first
                  | (exfalso; omega)
                  | (first | refine v_iincN hz 1 dX5_sharedWith_68 (by decide) rfl (by decide) rfl ?_ | refine v_iinc hz dX5_sharedWith_68 rfl (by decide) rfl ?_
                     refine v_goto hz 7 dX5_sharedWith_71 (by decide) ?_
                     first
                     | (exact v_sub (ih (sh + 1) (i + 1) (j + 1) (by omega) (by omega) (by omega) (by have := shC_eq (a := sx G1 n1 i) (b := sx G2 n2 j) (a' := sx G1 n1 (i + 1)) (b' := sx G2 n2 (j + 1)) c0b (fun c => sx_s (by omega)) (fun c => by rw [show G1 i = G2 j by omega]; exact sx_s (by omega)); omega)) ⟨rfl, rfl, rfl, rfl, rfl, trivial⟩)
                     | (exact v_sub (ih sh (i + 1) j (by omega) (by omega) (by omega) (by have := shC_l (a := sx G1 n1 i) (b := sx G2 n2 j) (a' := sx G1 n1 (i + 1)) (c0 := G1 i) (fun c => sx_s (by omega)) (sx_z n2 j (by omega) (by omega) (fun k a b => by have := hord2 j k a b; omega)); omega)) ⟨rfl, rfl, rfl, rfl, rfl, trivial⟩)
                     | (exact v_sub (ih sh i (j + 1) (by omega) (by omega) (by omega) (by have := shC_r (a := sx G1 n1 i) (b := sx G2 n2 j) (b' := sx G2 n2 (j + 1)) (c0 := G2 j) (fun c => sx_s (by omega)) (sx_z n1 i (by omega) (by omega) (fun k a b => by have := hord1 i k a b; omega)); omega)) ⟨rfl, rfl, rfl, rfl, rfl, trivial⟩)))
           · first
             | (exfalso; omega)
             | (first | refine v_iincN hz 1 dX5_sharedWith_58 (by decide) rfl (by decide) rfl ?_ | refine v_iinc hz dX5_sharedWith_58 rfl (by decide) rfl ?_
                refine v_iload hz dX5_sharedWith_61 rfl ?_
                refine v_iload hz dX5_sharedWith_63 rfl ?_
                first | with_reducible refine v_icmp_gtN hz 71 (by omega) (by omega) dX5_sharedWith_65 (by decide) (fun c65 => ?_) (fun c65 => ?_) | refine v_icmp_gt hz 71 dX5_sharedWith_65 (by decide) (fun c65 => ?_) (fun c65 => ?_)
                · first
                  | (exfalso; omega)
                  | (refine v_goto hz 7 dX5_sharedWith_71 (by decide) ?_
                     first
                     | (exact v_sub (ih (sh + 1) (i + 1) (j + 1) (by omega) (by omega) (by omega) (by have := shC_eq (a := sx G1 n1 i) (b := sx G2 n2 j) (a' := sx G1 n1 (i + 1)) (b' := sx G2 n2 (j + 1)) c0b (fun c => sx_s (by omega)) (fun c => by rw [show G1 i = G2 j by omega]; exact sx_s (by omega)); omega)) ⟨rfl, rfl, rfl, rfl, rfl, trivial⟩)
                     | (exact v_sub (ih sh (i + 1) j (by omega) (by omega) (by omega) (by have := shC_l (a := sx G1 n1 i) (b := sx G2 n2 j) (a' := sx G1 n1 (i + 1)) (c0 := G1 i) (fun c => sx_s (by omega)) (sx_z n2 j (by omega) (by omega) (fun k a b => by have := hord2 j k a b; omega)); omega)) ⟨rfl, rfl, rfl, rfl, rfl, trivial⟩)
                     | (exact v_sub (ih sh i (j + 1) (by omega) (by omega) (by omega) (by have := shC_r (a := sx G1 n1 i) (b := sx G2 n2 j) (b' := sx G2 n2 (j + 1)) (c0 := G2 j) (fun c => sx_s (by omega)) (sx_z n1 i (by omega) (by omega) (fun k a b => by have := hord1 i k a b; omega)); omega)) ⟨rfl, rfl, rfl, rfl, rfl, trivial⟩))
                · first
                  | (exfalso; omega)
                  | (first | refine v_iincN hz 1 dX5_sharedWith_68 (by decide) rfl (by decide) rfl ?_ | refine v_iinc hz dX5_sharedWith_68 rfl (by decide) rfl ?_
                     refine v_goto hz 7 dX5_sharedWith_71 (by decide) ?_
                     first
                     | (exact v_sub (ih (sh + 1) (i + 1) (j + 1) (by omega) (by omega) (by omega) (by have := shC_eq (a := sx G1 n1 i) (b := sx G2 n2 j) (a' := sx G1 n1 (i + 1)) (b' := sx G2 n2 (j + 1)) c0b (fun c => sx_s (by omega)) (fun c => by rw [show G1 i = G2 j by omega]; exact sx_s (by omega)); omega)) ⟨rfl, rfl, rfl, rfl, rfl, trivial⟩)
                     | (exact v_sub (ih sh (i + 1) j (by omega) (by omega) (by omega) (by have := shC_l (a := sx G1 n1 i) (b := sx G2 n2 j) (a' := sx G1 n1 (i + 1)) (c0 := G1 i) (fun c => sx_s (by omega)) (sx_z n2 j (by omega) (by omega) (fun k a b => by have := hord2 j k a b; omega)); omega)) ⟨rfl, rfl, rfl, rfl, rfl, trivial⟩)
                     | (exact v_sub (ih sh i (j + 1) (by omega) (by omega) (by omega) (by have := shC_r (a := sx G1 n1 i) (b := sx G2 n2 j) (b' := sx G2 n2 (j + 1)) (c0 := G2 j) (fun c => sx_s (by omega)) (sx_z n1 i (by omega) (by omega) (fun k a b => by have := hord1 i k a b; omega)); omega)) ⟨rfl, rfl, rfl, rfl, rfl, trivial⟩))))
      · first
        | (exfalso; omega)
        | (first | refine v_iincN hz 1 dX5_sharedWith_48 (by decide) rfl (by decide) rfl ?_ | refine v_iinc hz dX5_sharedWith_48 rfl (by decide) rfl ?_
           refine v_iload hz dX5_sharedWith_51 rfl ?_
           refine v_iload hz dX5_sharedWith_53 rfl ?_
           first | with_reducible refine v_icmp_gtN hz 61 (by omega) (by omega) dX5_sharedWith_55 (by decide) (fun c55 => ?_) (fun c55 => ?_) | refine v_icmp_gt hz 61 dX5_sharedWith_55 (by decide) (fun c55 => ?_) (fun c55 => ?_)
           · first
             | (exfalso; omega)
             | (refine v_iload hz dX5_sharedWith_61 rfl ?_
                refine v_iload hz dX5_sharedWith_63 rfl ?_
                first | with_reducible refine v_icmp_gtN hz 71 (by omega) (by omega) dX5_sharedWith_65 (by decide) (fun c65 => ?_) (fun c65 => ?_) | refine v_icmp_gt hz 71 dX5_sharedWith_65 (by decide) (fun c65 => ?_) (fun c65 => ?_)
                · first
                  | (exfalso; omega)
                  | (refine v_goto hz 7 dX5_sharedWith_71 (by decide) ?_
                     first
                     | (exact v_sub (ih (sh + 1) (i + 1) (j + 1) (by omega) (by omega) (by omega) (by have := shC_eq (a := sx G1 n1 i) (b := sx G2 n2 j) (a' := sx G1 n1 (i + 1)) (b' := sx G2 n2 (j + 1)) c0b (fun c => sx_s (by omega)) (fun c => by rw [show G1 i = G2 j by omega]; exact sx_s (by omega)); omega)) ⟨rfl, rfl, rfl, rfl, rfl, trivial⟩)
                     | (exact v_sub (ih sh (i + 1) j (by omega) (by omega) (by omega) (by have := shC_l (a := sx G1 n1 i) (b := sx G2 n2 j) (a' := sx G1 n1 (i + 1)) (c0 := G1 i) (fun c => sx_s (by omega)) (sx_z n2 j (by omega) (by omega) (fun k a b => by have := hord2 j k a b; omega)); omega)) ⟨rfl, rfl, rfl, rfl, rfl, trivial⟩)
                     | (exact v_sub (ih sh i (j + 1) (by omega) (by omega) (by omega) (by have := shC_r (a := sx G1 n1 i) (b := sx G2 n2 j) (b' := sx G2 n2 (j + 1)) (c0 := G2 j) (fun c => sx_s (by omega)) (sx_z n1 i (by omega) (by omega) (fun k a b => by have := hord1 i k a b; omega)); omega)) ⟨rfl, rfl, rfl, rfl, rfl, trivial⟩))
                · first
                  | (exfalso; omega)
                  | (first | refine v_iincN hz 1 dX5_sharedWith_68 (by decide) rfl (by decide) rfl ?_ | refine v_iinc hz dX5_sharedWith_68 rfl (by decide) rfl ?_
                     refine v_goto hz 7 dX5_sharedWith_71 (by decide) ?_
                     first
                     | (exact v_sub (ih (sh + 1) (i + 1) (j + 1) (by omega) (by omega) (by omega) (by have := shC_eq (a := sx G1 n1 i) (b := sx G2 n2 j) (a' := sx G1 n1 (i + 1)) (b' := sx G2 n2 (j + 1)) c0b (fun c => sx_s (by omega)) (fun c => by rw [show G1 i = G2 j by omega]; exact sx_s (by omega)); omega)) ⟨rfl, rfl, rfl, rfl, rfl, trivial⟩)
                     | (exact v_sub (ih sh (i + 1) j (by omega) (by omega) (by omega) (by have := shC_l (a := sx G1 n1 i) (b := sx G2 n2 j) (a' := sx G1 n1 (i + 1)) (c0 := G1 i) (fun c => sx_s (by omega)) (sx_z n2 j (by omega) (by omega) (fun k a b => by have := hord2 j k a b; omega)); omega)) ⟨rfl, rfl, rfl, rfl, rfl, trivial⟩)
                     | (exact v_sub (ih sh i (j + 1) (by omega) (by omega) (by omega) (by have := shC_r (a := sx G1 n1 i) (b := sx G2 n2 j) (b' := sx G2 n2 (j + 1)) (c0 := G2 j) (fun c => sx_s (by omega)) (sx_z n1 i (by omega) (by omega) (fun k a b => by have := hord1 i k a b; omega)); omega)) ⟨rfl, rfl, rfl, rfl, rfl, trivial⟩)))
           · first
             | (exfalso; omega)
             | (first | refine v_iincN hz 1 dX5_sharedWith_58 (by decide) rfl (by decide) rfl ?_ | refine v_iinc hz dX5_sharedWith_58 rfl (by decide) rfl ?_
                refine v_iload hz dX5_sharedWith_61 rfl ?_
                refine v_iload hz dX5_sharedWith_63 rfl ?_
                first | with_reducible refine v_icmp_gtN hz 71 (by omega) (by omega) dX5_sharedWith_65 (by decide) (fun c65 => ?_) (fun c65 => ?_) | refine v_icmp_gt hz 71 dX5_sharedWith_65 (by decide) (fun c65 => ?_) (fun c65 => ?_)
                · first
                  | (exfalso; omega)
                  | (refine v_goto hz 7 dX5_sharedWith_71 (by decide) ?_
                     first
                     | (exact v_sub (ih (sh + 1) (i + 1) (j + 1) (by omega) (by omega) (by omega) (by have := shC_eq (a := sx G1 n1 i) (b := sx G2 n2 j) (a' := sx G1 n1 (i + 1)) (b' := sx G2 n2 (j + 1)) c0b (fun c => sx_s (by omega)) (fun c => by rw [show G1 i = G2 j by omega]; exact sx_s (by omega)); omega)) ⟨rfl, rfl, rfl, rfl, rfl, trivial⟩)
                     | (exact v_sub (ih sh (i + 1) j (by omega) (by omega) (by omega) (by have := shC_l (a := sx G1 n1 i) (b := sx G2 n2 j) (a' := sx G1 n1 (i + 1)) (c0 := G1 i) (fun c => sx_s (by omega)) (sx_z n2 j (by omega) (by omega) (fun k a b => by have := hord2 j k a b; omega)); omega)) ⟨rfl, rfl, rfl, rfl, rfl, trivial⟩)
                     | (exact v_sub (ih sh i (j + 1) (by omega) (by omega) (by omega) (by have := shC_r (a := sx G1 n1 i) (b := sx G2 n2 j) (b' := sx G2 n2 (j + 1)) (c0 := G2 j) (fun c => sx_s (by omega)) (sx_z n1 i (by omega) (by omega) (fun k a b => by have := hord1 i k a b; omega)); omega)) ⟨rfl, rfl, rfl, rfl, rfl, trivial⟩))
                · first
                  | (exfalso; omega)
                  | (first | refine v_iincN hz 1 dX5_sharedWith_68 (by decide) rfl (by decide) rfl ?_ | refine v_iinc hz dX5_sharedWith_68 rfl (by decide) rfl ?_
                     refine v_goto hz 7 dX5_sharedWith_71 (by decide) ?_
                     first
                     | (exact v_sub (ih (sh + 1) (i + 1) (j + 1) (by omega) (by omega) (by omega) (by have := shC_eq (a := sx G1 n1 i) (b := sx G2 n2 j) (a' := sx G1 n1 (i + 1)) (b' := sx G2 n2 (j + 1)) c0b (fun c => sx_s (by omega)) (fun c => by rw [show G1 i = G2 j by omega]; exact sx_s (by omega)); omega)) ⟨rfl, rfl, rfl, rfl, rfl, trivial⟩)
                     | (exact v_sub (ih sh (i + 1) j (by omega) (by omega) (by omega) (by have := shC_l (a := sx G1 n1 i) (b := sx G2 n2 j) (a' := sx G1 n1 (i + 1)) (c0 := G1 i) (fun c => sx_s (by omega)) (sx_z n2 j (by omega) (by omega) (fun k a b => by have := hord2 j k a b; omega)); omega)) ⟨rfl, rfl, rfl, rfl, rfl, trivial⟩)
                     | (exact v_sub (ih sh i (j + 1) (by omega) (by omega) (by omega) (by have := shC_r (a := sx G1 n1 i) (b := sx G2 n2 j) (b' := sx G2 n2 (j + 1)) (c0 := G2 j) (fun c => sx_s (by omega)) (sx_z n1 i (by omega) (by omega) (fun k a b => by have := hord1 i k a b; omega)); omega)) ⟨rfl, rfl, rfl, rfl, rfl, trivial⟩))))
set_option maxHeartbeats 4000000 in
set_option maxRecDepth 100000 in
theorem cX5_sharedWith_ok (l : Launch) (g : Gz) (κ : Kz) (I : Iz) (R : Rz) (J : Jz) (A : Nat → Nat) (b b2 : Nat) (hg : LGg κ R A b) (hg2 : LGg κ R A b2) (n1 n2 : Nat) (G1 G2 : Nat → Nat) (h1 : cgr I A b n1 G1) (h2 : cgr I A b2 n2 G2) : Ct l mX5_sharedWith 0 0 g [.ref (A b), .ref (A b2)] κ I R J (Si κ R J (fun r I1 => r = nI (shC (cnt G1 n1) (cnt G2 n2)) ∧ I1 = I)) := by
  refine ct_of (by decide) (Nat.le_of_ble_eq_true rfl) ?_
  intro z hz hr hrc hrs
  have hz : Am z cX5_sharedWith RX5 7 0 := hz
  have hr : Rt z yX5_sharedWith (some .int) 0 0 _ := hr
  show V z 7 0 0 0 [(0, .ref (A b)), (1, .ref (A b2))] [] κ I R J
  refine v_ic (v := nI 0) hz dX5_sharedWith_0 (by decide) ?_
  refine v_istore_n hz dX5_sharedWith_1 (by decide) rfl ?_
  refine v_ic (v := nI 0) hz dX5_sharedWith_2 (by decide) ?_
  refine v_istore_n hz dX5_sharedWith_3 (by decide) rfl ?_
  refine v_ic (v := nI 0) hz dX5_sharedWith_4 (by decide) ?_
  refine v_istore hz dX5_sharedWith_5 (by decide) rfl ?_
  exact v_sub (lp_X5_sharedWith hz hg hg2 h1 h2 hr (n1 + n2 + 1) 0 0 0 (by omega) (by omega) (by omega) (by rw [show sx G1 n1 0 = cnt G1 n1 from funext (sx_0 G1 n1), show sx G2 n2 0 = cnt G2 n2 from funext (sx_0 G2 n2)]; omega)) ⟨rfl, rfl, rfl, rfl, rfl, trivial⟩
set_option maxHeartbeats 4000000 in
set_option maxRecDepth 100000 in
theorem lp_X5_addGramsOf {z : Zz} {κ : Kz} {I0 : Iz} {R : Rz} {J : Jz} {A : Nat → Nat} (hz : Am z cX5_addGramsOf RX5 5 1) {b sb n L D : Nat} {G T : Nat → Nat} (hg : LGg κ R A b) (hs : LSg κ R A sb) (hsb : b + 3 ≤ sb) (h1 : csn I0 A sb L D T) (hl : ltr L T) (hn : n + (L + 1) ≤ 56) (hr : Rt z yX5_addGramsOf none 0 0 (Sv κ R J (fun I1 => ∃ G2, cgr I1 A b (n + (L + 1)) G2 ∧ (∀ c, cnt G2 (n + (L + 1)) c = cnt G n c + gcw ccode L T c (L + 1)) ∧ (∀ a, a ≠ A b → a ≠ A (b + 2) → I1 a = I0 a) ∧ ∀ f, f ≠ 4 → I1 (A b) f = I0 (A b) f))) :
    ∀ (m k : Nat) (I : Iz) (Gk : Nat → Nat), k ≤ L → L + 1 ≤ k + m → cgr I A b (n + k) Gk → (∀ c, cnt Gk (n + k) c = cnt G n c + gcw ccode L T c k) → (∀ a, a ≠ A b → a ≠ A (b + 2) → I a = I0 a) → (∀ f, f ≠ 4 → I (A b) f = I0 (A b) f) → V z 5 0 0 4 [(0, .ref (A b)), (1, .ref (A sb)), (2, .int (nI (gp L T k).1)), (3, .int (nI k))] [] κ I R J := by
  obtain ⟨hk, ho, ⟨hR0, hK1, hN1, ho1⟩, ⟨hR1, hK2, hN2, ho2⟩, hrow⟩ := id hg
  have hne : A b ≠ A (b + 2) := tag_ne ho ho2 (by omega)
  obtain ⟨sk, sR0, sK1, sN1, so, so1⟩ := id hs
  obtain ⟨hL, e1, e2, hD, hT⟩ := h1
  have d1 : A sb ≠ A b := tag_ne so ho (by omega)
  have d2 : A sb ≠ A (b + 2) := tag_ne so ho2 (by omega)
  have d3 : A (sb + 1) ≠ A b := tag_ne so1 ho (by omega)
  have d4 : A (sb + 1) ≠ A (b + 2) := tag_ne so1 ho2 (by omega)
  intro m
  induction m with
  | zero => intro k I Gk hk9 hm; exact absurd hm (by omega)
  | succ m ih =>
  intro k I Gk hk9 hm hgr hcn hF hO
  have x1 : I (A sb) 1 = nI L := by rw [hF _ d1 d2]; exact e1
  have x2 : I (A (sb + 1)) = I0 (A (sb + 1)) := hF _ d3 d4
  refine v_iload_n hz dX5_addGramsOf_4 rfl ?_
  refine v_aload_n hz dX5_addGramsOf_5 rfl ?_
  refine v_getI hz fX5_70 (by assumption) dX5_addGramsOf_6 ?_
  refine v_top x1 ?_
  first | with_reducible refine v_icmp_geN hz 42 (by omega) (by omega) dX5_addGramsOf_9 (by decide) (fun c9 => ?_) (fun c9 => ?_) | refine v_icmp_ge hz 42 dX5_addGramsOf_9 (by decide) (fun c9 => ?_) (fun c9 => ?_)
  · refine v_aload_n hz dX5_addGramsOf_42 rfl ?_
    refine v_iload_n hz dX5_addGramsOf_43 rfl ?_
    refine v_ic (v := nI 0) hz dX5_addGramsOf_44 (by decide) ?_
    refine v_callSi hz lX5_79 (cX7_gramNumber_ok _ _ _ _ _ _ _ _) rfl rfl (Nat.le_of_ble_eq_true rfl) (by decide) ⟨Nat.zero_le _, Nat.zero_le _⟩ dX5_addGramsOf_45 (fun r I1 h45 => ?_)
    obtain ⟨rfl, rfl⟩ := h45
    refine v_top gn_code ?_
    have gk : 27 * (gp L T k).1 + 0 = ccode (gp L T k) := by unfold ccode gp; dsimp only; rw [if_pos (show k = L by omega)]
    refine v_top (y := nI (ccode (gp L T k))) (congrArg nI gk) ?_
    refine v_callVv hz lX5_83 (cX5_insertGram_ok _ _ _ _ _ _ A b hg (n + k) (ccode (gp L T k)) Gk hgr (by omega) (ccode_lt hl (by omega))) (by assumption) rfl rfl (Nat.le_of_ble_eq_true rfl) (by decide) ⟨Nat.zero_le _, Nat.zero_le _⟩ dX5_addGramsOf_48 (fun I1 h48 => ?_)
    obtain ⟨G3, hgr3, hcn3, hF3, hO3⟩ := h48
    exact v_vret hz hr dX5_addGramsOf_51 ⟨G3, by rw [show L = k by omega]; exact hgr3, fun c => by have := hcn3 c; rw [hcn c] at this; rw [show L = k by omega] at this ⊢; rw [show n + (k + 1) = n + k + 1 by omega, this, gcw_s]; omega, fun a h1 h2 => (hF3 a h1 h2).trans (hF a h1 h2), fun f hf => (hO3 f hf).trans (hO f hf)⟩
  · refine v_aload_n hz dX5_addGramsOf_12 rfl ?_
    refine v_getR hz fX5_73 (by assumption) (by assumption) dX5_addGramsOf_13 ?_
    refine v_iload_n hz dX5_addGramsOf_16 rfl ?_
    refine v_ialdN hz (by assumption) (by assumption) (by omega) (by decide) dX5_addGramsOf_17 ?_
    refine v_top (y := nI (T k)) (by rw [x2]; exact (hT k (by omega)).1) ?_
    refine v_callSi hz lX5_76 (cX7_letterNumber_ok _ _ _ _ _ _ _) rfl rfl (Nat.le_of_ble_eq_true rfl) (by decide) ⟨Nat.zero_le _, Nat.zero_le _⟩ dX5_addGramsOf_18 (fun r I1 h18 => ?_)
    obtain ⟨rfl, rfl⟩ := h18
    refine v_top (ln_letter (hl k (by omega)).1) ?_
    refine v_istore hz dX5_addGramsOf_21 (by decide) rfl ?_
    refine v_aload_n hz dX5_addGramsOf_23 rfl ?_
    refine v_iload_n hz dX5_addGramsOf_24 rfl ?_
    refine v_iload hz dX5_addGramsOf_25 rfl ?_
    refine v_callSi hz lX5_79 (cX7_gramNumber_ok _ _ _ _ _ _ _ _) rfl rfl (Nat.le_of_ble_eq_true rfl) (by decide) ⟨Nat.zero_le _, Nat.zero_le _⟩ dX5_addGramsOf_27 (fun r I1 h27 => ?_)
    obtain ⟨rfl, rfl⟩ := h27
    refine v_top gn_code ?_
    have gk : 27 * (gp L T k).1 + (T k - 96) = ccode (gp L T k) := by unfold ccode gp; dsimp only; rw [if_neg (show ¬ k = L by omega)]
    refine v_top (y := nI (ccode (gp L T k))) (congrArg nI gk) ?_
    refine v_callVv hz lX5_83 (cX5_insertGram_ok _ _ _ _ _ _ A b hg (n + k) (ccode (gp L T k)) Gk hgr (by omega) (ccode_lt hl (by omega))) (by assumption) rfl rfl (Nat.le_of_ble_eq_true rfl) (by decide) ⟨Nat.zero_le _, Nat.zero_le _⟩ dX5_addGramsOf_30 (fun I1 h30 => ?_)
    obtain ⟨G3, hgr3, hcn3, hF3, hO3⟩ := h30
    refine v_iload hz dX5_addGramsOf_33 rfl ?_
    refine v_istore_n hz dX5_addGramsOf_35 (by decide) rfl ?_
    first | refine v_iincN hz 1 dX5_addGramsOf_36 (by decide) rfl (by decide) rfl ?_ | refine v_iinc hz dX5_addGramsOf_36 rfl (by decide) rfl ?_
    refine v_goto hz 4 dX5_addGramsOf_39 (by decide) ?_
    exact v_sub (ih (k + 1) _ G3 (by omega) (by omega) hgr3 (fun c => by rw [show n + (k + 1) = n + k + 1 by omega, hcn3 c, hcn c, gcw_s]; omega) (fun a h1 h2 => (hF3 a h1 h2).trans (hF a h1 h2)) (fun f hf => (hO3 f hf).trans (hO f hf))) ⟨rfl, rfl, by show some (Value.int (nI (T k - 96))) = some (Value.int (nI (gp L T (k + 1)).1)); unfold gp; dsimp only; rw [if_neg (by omega)]; rfl, rfl, trivial⟩
set_option maxHeartbeats 4000000 in
set_option maxRecDepth 100000 in
theorem cX5_addGramsOf_ok (l : Launch) (g : Gz) (κ : Kz) (I : Iz) (R : Rz) (J : Jz) (A : Nat → Nat) (b sb n L D : Nat) (G T : Nat → Nat) (hg : LGg κ R A b) (hs : LSg κ R A sb) (hsb : b + 3 ≤ sb) (h1 : csn I A sb L D T) (hl : ltr L T) (hn : n + (L + 1) ≤ 56) (hgr : cgr I A b n G) : Ct l mX5_addGramsOf 0 0 g [.ref (A b), .ref (A sb)] κ I R J (Sv κ R J (fun I1 => ∃ G2, cgr I1 A b (n + (L + 1)) G2 ∧ (∀ c, cnt G2 (n + (L + 1)) c = cnt G n c + gcw ccode L T c (L + 1)) ∧ (∀ a, a ≠ A b → a ≠ A (b + 2) → I1 a = I a) ∧ ∀ f, f ≠ 4 → I1 (A b) f = I (A b) f)) := by
  refine ct_of (by decide) (Nat.le_of_ble_eq_true rfl) ?_
  intro z hz hr hrc hrs
  have hz : Am z cX5_addGramsOf RX5 5 1 := hz
  have hr : Rt z yX5_addGramsOf none 0 0 _ := hr
  show V z 5 0 0 0 [(0, .ref (A b)), (1, .ref (A sb))] [] κ I R J
  refine v_ic (v := nI 0) hz dX5_addGramsOf_0 (by decide) ?_
  refine v_istore_n hz dX5_addGramsOf_1 (by decide) rfl ?_
  refine v_ic (v := nI 0) hz dX5_addGramsOf_2 (by decide) ?_
  refine v_istore_n hz dX5_addGramsOf_3 (by decide) rfl ?_
  exact v_sub (lp_X5_addGramsOf hz hg hs hsb h1 hl hn hr (L + 1) 0 I G (by omega) (by omega) hgr (fun c => rfl) (fun _ _ _ => rfl) (fun _ _ => rfl)) ⟨rfl, rfl, rfl, rfl, trivial⟩
