/-! ===== the class: a segment is read off the page ===== -/
theorem tkI_ne {I : Iz} {A : Nat → Nat} {b L c a : Nat} (h1 : a ≠ A b) (h2 : a ≠ A (b + 1)) : tkI I A b L c a = I a := by
  unfold tkI
  split
  · exact u2_ne h1
  · split
    · rw [u2_ne h1, u2_ne h2]
    · rfl
/-- a sign that takes a letter -/
theorem csn_take {I : Iz} {A : Nat → Nat} {b L D c : Nat} {T : Nat → Nat} (h : csn I A b L D T) (hne : A b ≠ A (b + 1)) (hc : c ≤ 126) : csn (tkI I A b L c) A b (if 49 ≤ c ∧ c ≤ 57 then L else if (97 ≤ c ∧ c ≤ 122) ∧ L < 12 then L + 1 else L) (if 49 ≤ c ∧ c ≤ 57 then c - 48 else D) (if 49 ≤ c ∧ c ≤ 57 then T else if (97 ≤ c ∧ c ≤ 122) ∧ L < 12 then (fun j => if j = L then c else T j) else T) := by
  obtain ⟨hL, e1, e2, hD, hT⟩ := h
  unfold tkI
  by_cases q1 : 49 ≤ c ∧ c ≤ 57
  · simp only [if_pos q1]
    exact ⟨hL, by rw [u2_at (by decide)]; exact e1, u2_eq, by omega, fun j hj => ⟨by rw [u2_ne (Ne.symm hne)]; exact (hT j hj).1, (hT j hj).2⟩⟩
  · simp only [if_neg q1]
    by_cases q2 : (97 ≤ c ∧ c ≤ 122) ∧ L < 12
    · simp only [if_pos q2]
      refine ⟨by omega, u2_eq, by rw [u2_at (by decide), u2_ne hne]; exact e2, hD, fun j hj => ?_⟩
      rw [u2_ne (Ne.symm hne)]
      by_cases q3 : j = L
      · subst q3; rw [u2_eq]; simp only [if_true]; exact ⟨trivial, by omega⟩
      · rw [u2_at q3]; simp only [q3, if_false]; exact hT j (by omega)
    · simp only [if_neg q2]
      exact ⟨hL, e1, e2, hD, hT⟩
theorem csn_clear {I : Iz} {A : Nat → Nat} {b : Nat} {T : Nat → Nat} : csn (u2 (u2 I (A b) 1 (nI 0)) (A b) 2 (nI 0)) A b 0 0 T := ⟨by omega, by rw [u2_at (by decide), u2_eq], u2_eq, by omega, fun j hj => absurd hj (by omega)⟩
def csig (I : Iz) (A : Nat → Nat) (b : Nat) (p : Sg) : Prop := ∀ s, s ≤ p.1 → csn I A (b + 3 + 2 * s) (p.2.1 s) (p.2.2.1 s) (p.2.2.2 s)
/-- but for the cells of the signs all is as it was -/
def Frs (A : Nat → Nat) (b : Nat) (I0 I : Iz) : Prop := ∀ a, (∀ s, s < 8 → a ≠ A (b + 3 + 2 * s) ∧ a ≠ A (b + 3 + 2 * s + 1)) → I a = I0 a
theorem csig_take {κ : Kz} {R : Rz} {A : Nat → Nat} {b c : Nat} {I : Iz} {p : Sg} (hrow : ∀ i, i < 8 → R (A (b + 1)) i = some (A (b + 3 + 2 * i)) ∧ LSg κ R A (b + 3 + 2 * i)) (h : csig I A b p) (hk : p.1 ≤ 7) (hc : c ≤ 126) (h32 : c ≠ 32) : csig (tkI I A (b + 3 + 2 * p.1) (p.2.1 p.1) c) A b (prst p c) := by
  have e1 : (prst p c).1 = p.1 := by
    unfold prst
    rw [if_neg h32]
    split
    · rfl
    · split <;> rfl
  intro s hs
  rw [e1] at hs
  have lk := (hrow p.1 (by omega)).2
  by_cases e : s = p.1
  · subst e
    have := csn_take (c := c) (h p.1 (Nat.le_refl _)) (tag_ne lk.2.2.2.2.1 lk.2.2.2.2.2 (by omega)) hc
    unfold prst
    rw [if_neg h32]
    by_cases q1 : 49 ≤ c ∧ c ≤ 57
    · simp only [if_pos q1] at this ⊢
      rw [vup_s]
      exact this
    · simp only [if_neg q1] at this ⊢
      by_cases q2 : (97 ≤ c ∧ c ≤ 122) ∧ p.2.1 p.1 < 12
      · simp only [if_pos q2] at this ⊢
        rw [vup_s, u2_row]
        exact this
      · simp only [if_neg q2] at this ⊢
        exact this
  · have ls := (hrow s (by omega)).2
    have h1 := (h s hs).keep (I1 := tkI I A (b + 3 + 2 * p.1) (p.2.1 p.1) c) (tkI_ne (tag_ne ls.2.2.2.2.1 lk.2.2.2.2.1 (by omega)) (tag_ne ls.2.2.2.2.1 lk.2.2.2.2.2 (by omega))) (tkI_ne (tag_ne ls.2.2.2.2.2 lk.2.2.2.2.1 (by omega)) (tag_ne ls.2.2.2.2.2 lk.2.2.2.2.2 (by omega)))
    unfold prst
    rw [if_neg h32]
    by_cases q1 : 49 ≤ c ∧ c ≤ 57
    · simp only [if_pos q1]
      rw [vup_n e]
      exact h1
    · simp only [if_neg q1]
      by_cases q2 : (97 ≤ c ∧ c ≤ 122) ∧ p.2.1 p.1 < 12
      · simp only [if_pos q2]
        rw [vup_n e, u2_ne e]
        exact h1
      · simp only [if_neg q2]
        exact h1
theorem csig_clear {κ : Kz} {R : Rz} {A : Nat → Nat} {b : Nat} {I : Iz} {p : Sg} (hrow : ∀ i, i < 8 → R (A (b + 1)) i = some (A (b + 3 + 2 * i)) ∧ LSg κ R A (b + 3 + 2 * i)) (h : csig I A b p) (hk : p.1 < 7) : csig (u2 (u2 I (A (b + 3 + 2 * (p.1 + 1))) 1 (nI 0)) (A (b + 3 + 2 * (p.1 + 1))) 2 (nI 0)) A b (prst p 32) := by
  intro s hs
  unfold prst at hs ⊢
  rw [if_pos rfl] at hs ⊢
  dsimp only at hs ⊢
  have lk := (hrow (p.1 + 1) (by omega)).2
  by_cases e : s = p.1 + 1
  · subst e
    rw [vup_s, vup_s]
    exact csn_clear
  · have ls := (hrow s (by omega)).2
    rw [vup_n e, vup_n e]
    exact (h s (by omega)).keep (by rw [u2_ne (tag_ne ls.2.2.2.2.1 lk.2.2.2.2.1 (by omega)), u2_ne (tag_ne ls.2.2.2.2.1 lk.2.2.2.2.1 (by omega))]) (by rw [u2_ne (tag_ne ls.2.2.2.2.2 lk.2.2.2.2.1 (by omega)), u2_ne (tag_ne ls.2.2.2.2.2 lk.2.2.2.2.1 (by omega))])
theorem Frs.take {A : Nat → Nat} {b k L c : Nat} {I0 I : Iz} (h : Frs A b I0 I) (hk : k < 8) : Frs A b I0 (tkI I A (b + 3 + 2 * k) L c) := fun a ha => (tkI_ne (ha k hk).1 (ha k hk).2).trans (h a ha)
theorem Frs.clear {A : Nat → Nat} {b k : Nat} {I0 I : Iz} {x y : Int32} (h : Frs A b I0 I) (hk : k < 8) : Frs A b I0 (u2 (u2 I (A (b + 3 + 2 * k)) 1 x) (A (b + 3 + 2 * k)) 2 y) := fun a ha => by rw [u2_ne (ha k hk).1, u2_ne (ha k hk).1]; exact h a ha
theorem aru_pre {pg : Nat → Nat} {n i : Nat} (h : (aru pg n).isSome = true) (hi : i ≤ n) : ∃ q, aru pg i = some q := by
  cases e : aru pg i with
  | some q => exact ⟨q, rfl⟩
  | none =>
    have := aru_mono e (n - i)
    rw [show i + (n - i) = n by omega] at this
    rw [this] at h
    cases h
theorem ast_sp {q q' : Nat × Nat × Nat} (h : ast q 32 = some q') : q.2.1 < 7 := by
  unfold ast at h
  by_cases s0 : q.1 = 0
  · rw [if_pos s0, if_neg (by decide), if_neg (by decide)] at h; cases h
  · rw [if_neg s0] at h
    by_cases s1 : q.1 = 1
    · rw [if_pos s1, if_neg (by decide)] at h
      by_cases e : 32 = 32 ∧ q.2.1 < 7
      · exact e.2
      · rw [if_neg e] at h; cases h
    · rw [if_neg s1] at h
      by_cases s2 : q.1 = 2
      · rw [if_pos s2, if_neg (by decide)] at h; cases h
      · rw [if_neg s2] at h
        by_cases s3 : q.1 = 3
        · rw [if_pos s3, if_neg (by decide)] at h; cases h
        · rw [if_neg s3] at h
          by_cases e : 32 = 32 ∧ q.2.1 < 7
          · exact e.2
          · rw [if_neg e] at h; cases h
theorem prs_k {a b : Nat} (h : a = b) : some (Value.int (nI a)) = some (Value.int (nI b)) := by rw [h]
theorem pr_k1 {pg : Nat → Nat} {i : Nat} (h : pg i ≠ 32) : (prs pg i).1 = (prs pg (i + 1)).1 := by
  show _ = (prst (prs pg i) (pg i)).1
  unfold prst
  rw [if_neg h]
  split
  · rfl
  · split <;> rfl
theorem pr_k2 {pg : Nat → Nat} {i : Nat} (h : pg i = 32) : (prs pg i).1 + 1 = (prs pg (i + 1)).1 := by
  show _ = (prst (prs pg i) (pg i)).1
  unfold prst
  rw [if_pos h]
/-- a segment of the class, whole -/
def cseg (I : Iz) (A : Nat → Nat) (b : Nat) (S : Sg) : Prop := csg I A b S ∧ ∃ Gr, cgr I A b (grn S) Gr ∧ ∀ c, cnt Gr (grn S) c = gct ccode S c
theorem gsm_t {L : Nat → Nat} {i : Nat} (h : 0 < L i) : gsm L (i + 1) = gsm L i + (L i + 1) := by
  show gsm L i + (if 0 < L i then L i + 1 else 0) = _
  rw [if_pos h]
theorem gsm_f {L : Nat → Nat} {i : Nat} (h : ¬ 0 < L i) : gsm L (i + 1) = gsm L i := by
  show gsm L i + (if 0 < L i then L i + 1 else 0) = _
  rw [if_neg h]
  rfl
theorem gsm_le {L : Nat → Nat} {i n : Nat} (h : i ≤ n) : gsm L i ≤ gsm L n := by
  obtain ⟨d, rfl⟩ : ∃ d, n = i + d := ⟨n - i, by omega⟩
  clear h
  induction d with
  | zero => exact Nat.le_refl _
  | succ d ih =>
    show _ ≤ gsm L (i + d) + _
    omega
/-- but for the cells of the segment all is as it was -/
def Fsg (A : Nat → Nat) (b : Nat) (I0 I : Iz) : Prop := ∀ a, (∀ t, b ≤ t → t < b + 19 → a ≠ A t) → I a = I0 a
set_option maxHeartbeats 4000000 in
set_option maxRecDepth 100000 in
theorem lp_X5_read_1 {z : Zz} {κ : Kz} {I0 : Iz} {R : Rz} {J : Jz} {A : Nat → Nat} (hz : Am z cX5_read RX5 5 2) {b n : Nat} {pg : Nat → Nat} (hg : LGg κ R A b) (hp : LPg κ R A) (hb : 3 ≤ b) (h0 : cpg I0 A n pg) (hsome : (aru pg n).isSome = true) (K : ∀ I1, Frs A b I0 I1 → csig I1 A b (prs pg n) → (prs pg n).1 ≤ 7 → V z 5 0 0 79 [(0, .ref (A b)), (1, .ref (A 1)), (2, .int (nI (prs pg n).1))] [] κ I1 R J) :
    ∀ (m i : Nat) (I : Iz), i ≤ n → n + 1 ≤ i + m → Frs A b I0 I → csig I A b (prs pg i) → V z 5 0 0 13 [(0, .ref (A b)), (1, .ref (A 1)), (2, .int (nI (prs pg i).1)), (3, .int (nI i))] [] κ I R J := by
  obtain ⟨hk, ho, ⟨hR0, hK1, hN1, ho1⟩, ⟨hR1, hK2, hN2, ho2⟩, hrow⟩ := id hg
  have hne : A b ≠ A (b + 2) := tag_ne ho ho2 (by omega)
  obtain ⟨pk, pR0, pK2, pN2, po1, po2⟩ := id hp
  obtain ⟨hn, hsz, hpg⟩ := h0
  have np1 : ∀ s, s < 8 → A 1 ≠ A (b + 3 + 2 * s) ∧ A 1 ≠ A (b + 3 + 2 * s + 1) := fun s hs => ⟨tag_ne po1 (hrow s hs).2.2.2.2.2.1 (by omega), tag_ne po1 (hrow s hs).2.2.2.2.2.2 (by omega)⟩
  have np2 : ∀ s, s < 8 → A 2 ≠ A (b + 3 + 2 * s) ∧ A 2 ≠ A (b + 3 + 2 * s + 1) := fun s hs => ⟨tag_ne po2 (hrow s hs).2.2.2.2.2.1 (by omega), tag_ne po2 (hrow s hs).2.2.2.2.2.2 (by omega)⟩
  intro m
  induction m with
  | zero => intro i I hi hm; exact absurd hm (by omega)
  | succ m ih =>
  intro i I hi hm hF hcs
  obtain ⟨q, hq⟩ := aru_pre hsome hi
  have hpi := prs_PIv hq
  have hk7 : (prs pg i).1 ≤ 7 := by rw [hpi.1]; exact hpi.2.1
  have s1 : I (A 1) 1 = nI n := by rw [hF _ np1]; exact hsz
  have s2 : I (A 2) = I0 (A 2) := hF _ np2
  refine v_iload_n hz dX5_read_13 rfl ?_
  refine v_aload_n hz dX5_read_14 rfl ?_
  refine v_getI hz fX5_25 (by assumption) dX5_read_15 ?_
  refine v_top s1 ?_
  first | with_reducible refine v_icmp_geN hz 79 (by omega) (by omega) dX5_read_18 (by decide) (fun c18 => ?_) (fun c18 => ?_) | refine v_icmp_ge hz 79 dX5_read_18 (by decide) (fun c18 => ?_) (fun c18 => ?_)
  · exact v_sub (K _ hF (by rw [show n = i by omega]; exact hcs) (by rw [show n = i by omega]; exact hk7)) ⟨rfl, rfl, by rw [show n = i by omega]; rfl, trivial⟩
  · refine v_aload_n hz dX5_read_21 rfl ?_
    refine v_getR hz fX5_31 (by assumption) (by assumption) dX5_read_22 ?_
    refine v_iload_n hz dX5_read_25 rfl ?_
    refine v_ialdN hz (by assumption) (by assumption) (by omega) (by decide) dX5_read_26 ?_
    refine v_top (y := nI (pg i)) (by rw [s2]; exact (hpg i (by omega)).1) ?_
    have hc := (hpg i (by omega)).2
    obtain ⟨q2, hq2⟩ := aru_pre hsome (show i + 1 ≤ n by omega)
    have hast : ast q (pg i) = some q2 := by
      have h2 : (aru pg i).bind (fun q => ast q (pg i)) = some q2 := hq2
      rw [hq] at h2
      exact h2
    have hks : pg i = 32 → (prs pg i).1 < 7 := fun e => by rw [e] at hast; rw [hpi.1]; exact ast_sp hast
    refine v_istore hz dX5_read_27 (by decide) rfl ?_
    refine v_iload hz dX5_read_29 rfl ?_
    refine v_bi (v := nI 32) hz dX5_read_31 (by decide) ?_
    first | with_reducible refine v_icmp_neN hz 62 (by omega) (by omega) dX5_read_33 (by decide) (fun c33 => ?_) (fun c33 => ?_) | refine v_icmp_ne hz 62 dX5_read_33 (by decide) (fun c33 => ?_) (fun c33 => ?_)
    · refine v_aload_n hz dX5_read_62 rfl ?_
      refine v_getR hz fX5_11 (by assumption) (by assumption) dX5_read_63 ?_
      refine v_iload_n hz dX5_read_66 rfl ?_
      refine v_aaldN hz (by omega) (by assumption) (by omega) (by decide) (hrow (prs pg i).1 (by omega)).1 dX5_read_67 ?_
      refine v_iload hz dX5_read_68 rfl ?_
      have hsk := (hrow (prs pg i).1 (by omega)).2.1
      refine v_callVv hz lX5_34 (cX6_take_ok _ _ _ _ _ _ A _ (hrow (prs pg i).1 (by omega)).2 _ (pg i) (hcs _ (Nat.le_refl _)).1 (hcs _ (Nat.le_refl _)).2.1 hc) (by assumption) rfl rfl (Nat.le_of_ble_eq_true rfl) (by decide) ⟨Nat.zero_le _, Nat.zero_le _⟩ dX5_read_70 (fun I1 h70 => ?_)
      subst h70
      first | refine v_iincN hz 1 dX5_read_73 (by decide) rfl (by decide) rfl ?_ | refine v_iinc hz dX5_read_73 rfl (by decide) rfl ?_
      refine v_goto hz 13 dX5_read_76 (by decide) ?_
      first
      | (exact v_sub (ih (i + 1) _ (by omega) (by omega) (hF.take (by omega)) (csig_take hrow hcs hk7 hc c33)) ⟨rfl, rfl, prs_k (pr_k1 c33), rfl, trivial⟩)
      | (exact v_sub (ih (i + 1) _ (by omega) (by omega) (hF.clear (by omega)) (by show csig _ A b (prst (prs pg i) (pg i)); rw [e32]; exact csig_clear hrow hcs (hks e32))) ⟨rfl, rfl, prs_k (pr_k2 e32), rfl, trivial⟩)
    · refine v_iload_n hz dX5_read_36 rfl ?_
      refine v_ic (v := nI 1) hz dX5_read_37 (by decide) ?_
      first | with_reducible refine v_iaddN hz dX5_read_38 ?_ | refine v_iadd hz dX5_read_38 ?_
      refine v_aload_n hz dX5_read_39 rfl ?_
      refine v_getR hz fX5_11 (by assumption) (by assumption) dX5_read_40 ?_
      refine v_alenN hz (by omega) (by assumption) dX5_read_43 ?_
      first | with_reducible refine v_icmp_geN hz 62 (by omega) (by omega) dX5_read_44 (by decide) (fun c44 => ?_) (fun c44 => ?_) | refine v_icmp_ge hz 62 dX5_read_44 (by decide) (fun c44 => ?_) (fun c44 => ?_)
      · first
        | (exfalso; omega)
        | (refine v_aload_n hz dX5_read_62 rfl ?_
           refine v_getR hz fX5_11 (by assumption) (by assumption) dX5_read_63 ?_
           refine v_iload_n hz dX5_read_66 rfl ?_
           refine v_aaldN hz (by omega) (by assumption) (by omega) (by decide) (hrow (prs pg i).1 (by omega)).1 dX5_read_67 ?_
           refine v_iload hz dX5_read_68 rfl ?_
           have hsk := (hrow (prs pg i).1 (by omega)).2.1
           refine v_callVv hz lX5_34 (cX6_take_ok _ _ _ _ _ _ A _ (hrow (prs pg i).1 (by omega)).2 _ (pg i) (hcs _ (Nat.le_refl _)).1 (hcs _ (Nat.le_refl _)).2.1 hc) (by assumption) rfl rfl (Nat.le_of_ble_eq_true rfl) (by decide) ⟨Nat.zero_le _, Nat.zero_le _⟩ dX5_read_70 (fun I1 h70 => ?_)
           subst h70
           first | refine v_iincN hz 1 dX5_read_73 (by decide) rfl (by decide) rfl ?_ | refine v_iinc hz dX5_read_73 rfl (by decide) rfl ?_
           refine v_goto hz 13 dX5_read_76 (by decide) ?_
           first
           | (exact v_sub (ih (i + 1) _ (by omega) (by omega) (hF.take (by omega)) (csig_take hrow hcs hk7 hc c33)) ⟨rfl, rfl, prs_k (pr_k1 c33), rfl, trivial⟩)
           | (exact v_sub (ih (i + 1) _ (by omega) (by omega) (hF.clear (by omega)) (by show csig _ A b (prst (prs pg i) (pg i)); rw [e32]; exact csig_clear hrow hcs (hks e32))) ⟨rfl, rfl, prs_k (pr_k2 e32), rfl, trivial⟩))
      · first
        | (exfalso; omega)
        | (first | refine v_iincN hz 1 dX5_read_47 (by decide) rfl (by decide) rfl ?_ | refine v_iinc hz dX5_read_47 rfl (by decide) rfl ?_
           refine v_aload_n hz dX5_read_50 rfl ?_
           refine v_getR hz fX5_11 (by assumption) (by assumption) dX5_read_51 ?_
           refine v_iload_n hz dX5_read_54 rfl ?_
           refine v_aaldN hz (by omega) (by assumption) (by omega) (by decide) (hrow ((prs pg i).1 + 1) (by omega)).1 dX5_read_55 ?_
           have hsk := (hrow ((prs pg i).1 + 1) (by omega)).2.1
           refine v_callVv hz lX5_22 (cX6_clear_ok _ _ _ _ _ _ A _ (hrow ((prs pg i).1 + 1) (by omega)).2) (by assumption) rfl rfl (Nat.le_of_ble_eq_true rfl) (by decide) ⟨Nat.zero_le _, Nat.zero_le _⟩ dX5_read_56 (fun I1 h56 => ?_)
           subst h56
           have e32 : pg i = 32 := by omega
           refine v_goto hz 73 dX5_read_59 (by decide) ?_
           first | refine v_iincN hz 1 dX5_read_73 (by decide) rfl (by decide) rfl ?_ | refine v_iinc hz dX5_read_73 rfl (by decide) rfl ?_
           refine v_goto hz 13 dX5_read_76 (by decide) ?_
           first
           | (exact v_sub (ih (i + 1) _ (by omega) (by omega) (hF.take (by omega)) (csig_take hrow hcs hk7 hc c33)) ⟨rfl, rfl, prs_k (pr_k1 c33), rfl, trivial⟩)
           | (exact v_sub (ih (i + 1) _ (by omega) (by omega) (hF.clear (by omega)) (by show csig _ A b (prst (prs pg i) (pg i)); rw [e32]; exact csig_clear hrow hcs (hks e32))) ⟨rfl, rfl, prs_k (pr_k2 e32), rfl, trivial⟩))
set_option maxHeartbeats 4000000 in
set_option maxRecDepth 100000 in
theorem lp_X5_read_2 {z : Zz} {κ : Kz} {I0 : Iz} {R : Rz} {J : Jz} {A : Nat → Nat} (hz : Am z cX5_read RX5 5 2) {b k : Nat} {S : Sg} (hg : LGg κ R A b) (hok : okS S) (hgn : grn S ≤ 56) (hsn : ∀ s, s < S.1 → csn I0 A (b + 3 + 2 * s) (S.2.1 s) (S.2.2.1 s) (S.2.2.2 s)) {P : Postz} (hr : Rt z yX5_read none 0 0 P) (hP : ∀ I1, cseg I1 A b S → I1 (A b) 5 = nI 0 → (∀ a, a ≠ A b → a ≠ A (b + 2) → I1 a = I0 a) → P none κ I1 R J) :
    ∀ (m i : Nat) (I : Iz) (Gr : Nat → Nat), i ≤ S.1 → S.1 + 1 ≤ i + m → I (A b) 2 = nI S.1 → I (A b) 3 = nI (sm (fun i => if 0 < S.2.1 i then 1 else 0) i) → I (A b) 5 = nI 0 → cgr I A b (gsm S.2.1 i) Gr → (∀ c, cnt Gr (gsm S.2.1 i) c = gcs ccode S c i) → (∀ a, a ≠ A b → a ≠ A (b + 2) → I a = I0 a) → V z 5 0 0 103 [(0, .ref (A b)), (1, .ref (A 1)), (2, .int (nI k)), (3, .int (nI i))] [] κ I R J := by
  obtain ⟨hk, ho, ⟨hR0, hK1, hN1, ho1⟩, ⟨hR1, hK2, hN2, ho2⟩, hrow⟩ := id hg
  have hne : A b ≠ A (b + 2) := tag_ne ho ho2 (by omega)
  have hS8 := hok.2.1
  intro m
  induction m with
  | zero => intro i I Gr hi hm; exact absurd hm (by omega)
  | succ m ih =>
  intro i I Gr hi hm f2 f3 f5 hgr hcn hF
  have hcs : ∀ s, s < S.1 → csn I A (b + 3 + 2 * s) (S.2.1 s) (S.2.2.1 s) (S.2.2.2 s) := fun s hs => by
    have ls := (hrow s (by omega)).2
    exact (hsn s hs).keep (hF _ (tag_ne ls.2.2.2.2.1 ho (by omega)) (tag_ne ls.2.2.2.2.1 ho2 (by omega))) (hF _ (tag_ne ls.2.2.2.2.2 ho (by omega)) (tag_ne ls.2.2.2.2.2 ho2 (by omega)))
  refine v_iload_n hz dX5_read_103 rfl ?_
  refine v_aload_n hz dX5_read_104 rfl ?_
  refine v_getI hz fX5_38 (by assumption) dX5_read_105 ?_
  refine v_top f2 ?_
  first | with_reducible refine v_icmp_geN hz 149 (by omega) (by omega) dX5_read_108 (by decide) (fun c108 => ?_) (fun c108 => ?_) | refine v_icmp_ge hz 149 dX5_read_108 (by decide) (fun c108 => ?_) (fun c108 => ?_)
  · exact v_vret0 hz hr dX5_read_149 (hP _ ⟨⟨hS8, f2, by rw [f3, show i = S.1 by omega]; rfl, hcs⟩, Gr, by rw [show grn S = gsm S.2.1 i by rw [show i = S.1 by omega]; rfl]; exact hgr, fun c => by rw [show grn S = gsm S.2.1 i by rw [show i = S.1 by omega]; rfl, hcn c, show i = S.1 by omega]; rfl⟩ f5 hF)
  · refine v_aload_n hz dX5_read_111 rfl ?_
    refine v_getR hz fX5_11 (by assumption) (by assumption) dX5_read_112 ?_
    refine v_iload_n hz dX5_read_115 rfl ?_
    refine v_aaldN hz (by omega) (by assumption) (by omega) (by decide) (hrow i (by omega)).1 dX5_read_116 ?_
    have hsk := (hrow i (by omega)).2.1
    refine v_callVi hz lX5_50 (cX6_isWord_ok _ _ _ _ _ _ A _ (hrow i (by omega)).2 (S.2.1 i) (hcs i (by omega)).1 (hcs i (by omega)).2.1) (by assumption) rfl rfl (Nat.le_of_ble_eq_true rfl) (by decide) ⟨Nat.zero_le _, Nat.zero_le _⟩ dX5_read_117 (fun r I1 h117 => ?_)
    obtain ⟨rfl, rfl⟩ := h117
    first | with_reducible refine v_if_eqB hz 143 dX5_read_120 (by decide) (fun c120 => ?_) (fun c120 => ?_) | with_reducible refine v_if_eqN hz 143 (by omega) dX5_read_120 (by decide) (fun c120 => ?_) (fun c120 => ?_) | refine v_if_eq hz 143 dX5_read_120 (by decide) (fun c120 => ?_) (fun c120 => ?_)
    · first | refine v_iincN hz 1 dX5_read_143 (by decide) rfl (by decide) rfl ?_ | refine v_iinc hz dX5_read_143 rfl (by decide) rfl ?_
      refine v_goto hz 103 dX5_read_146 (by decide) ?_
      first
      | (exact v_sub (ih (i + 1) _ G3 (by omega) (by omega) (by rw [hO3 2 (by decide), hI2, u2_at (by decide)]; exact f2) (by rw [hO3 3 (by decide), hI2, u2_eq, sm, if_pos c120]) (by rw [hO3 5 (by decide), hI2, u2_at (by decide)]; exact f5) (by rw [g4]; exact hgr3) (fun c => by rw [g4, hcn3 c, hcn c, gcs_s, if_pos c120]) (fun a h1 h2 => by rw [hF3 a h1 h2, hI2, u2_ne h1]; exact hF a h1 h2)) ⟨rfl, rfl, rfl, rfl, trivial⟩)
      | (exact v_sub (ih (i + 1) _ Gr (by omega) (by omega) f2 (by rw [f3, sm, if_neg c120]; rfl) f5 (by rw [gsm_f c120]; exact hgr) (fun c => by rw [gsm_f c120, hcn c, gcs_s, if_neg c120]; rfl) hF) ⟨rfl, rfl, rfl, rfl, trivial⟩)
    · refine v_aload_n hz dX5_read_123 rfl ?_
      refine v_dup hz dX5_read_124 rfl ?_
      refine v_getI hz fX5_41 (by assumption) dX5_read_125 ?_
      refine v_top f3 ?_
      refine v_ic (v := nI 1) hz dX5_read_128 (by decide) ?_
      first | with_reducible refine v_iaddN hz dX5_read_129 ?_ | refine v_iadd hz dX5_read_129 ?_
      refine v_putI hz fX5_41 (by assumption) dX5_read_130 ?_
      refine v_gen (fun I2 hI2 => ?_)
      have ls := (hrow i (by omega)).2
      have g1 : csn I2 A (b + 3 + 2 * i) (S.2.1 i) (S.2.2.1 i) (S.2.2.2 i) := (hcs i (by omega)).keep (by rw [hI2]; exact u2_ne (tag_ne ls.2.2.2.2.1 ho (by omega))) (by rw [hI2]; exact u2_ne (tag_ne ls.2.2.2.2.2 ho (by omega)))
      have g2 : cgr I2 A b (gsm S.2.1 i) Gr := hgr.keep (by rw [hI2]; exact u2_at (by decide)) (by rw [hI2]; exact u2_ne (Ne.symm hne))
      have g3 : gsm S.2.1 (i + 1) ≤ grn S := gsm_le (by omega)
      have g4 : gsm S.2.1 (i + 1) = gsm S.2.1 i + (S.2.1 i + 1) := gsm_t c120
      refine v_aload_n hz dX5_read_133 rfl ?_
      refine v_aload_n hz dX5_read_134 rfl ?_
      refine v_getR hz fX5_11 (by assumption) (by assumption) dX5_read_135 ?_
      refine v_iload_n hz dX5_read_138 rfl ?_
      refine v_aaldN hz (by omega) (by assumption) (by omega) (by decide) (hrow i (by omega)).1 dX5_read_139 ?_
      refine v_callVv hz lX5_54 (cX5_addGramsOf_ok _ _ _ _ _ _ A b (b + 3 + 2 * i) (gsm S.2.1 i) (S.2.1 i) (S.2.2.1 i) Gr (S.2.2.2 i) hg ls (by omega) g1 (hok.2.2 i (by omega)).2.2 (by omega) g2) (by assumption) rfl rfl (Nat.le_of_ble_eq_true rfl) (by decide) ⟨Nat.zero_le _, Nat.zero_le _⟩ dX5_read_140 (fun I1 h140 => ?_)
      obtain ⟨G3, hgr3, hcn3, hF3, hO3⟩ := h140
      first | refine v_iincN hz 1 dX5_read_143 (by decide) rfl (by decide) rfl ?_ | refine v_iinc hz dX5_read_143 rfl (by decide) rfl ?_
      refine v_goto hz 103 dX5_read_146 (by decide) ?_
      first
      | (exact v_sub (ih (i + 1) _ G3 (by omega) (by omega) (by rw [hO3 2 (by decide), hI2, u2_at (by decide)]; exact f2) (by rw [hO3 3 (by decide), hI2, u2_eq, sm, if_pos c120]) (by rw [hO3 5 (by decide), hI2, u2_at (by decide)]; exact f5) (by rw [g4]; exact hgr3) (fun c => by rw [g4, hcn3 c, hcn c, gcs_s, if_pos c120]) (fun a h1 h2 => by rw [hF3 a h1 h2, hI2, u2_ne h1]; exact hF a h1 h2)) ⟨rfl, rfl, rfl, rfl, trivial⟩)
      | (exact v_sub (ih (i + 1) _ Gr (by omega) (by omega) f2 (by rw [f3, sm, if_neg c120]; rfl) f5 (by rw [gsm_f c120]; exact hgr) (fun c => by rw [gsm_f c120, hcn c, gcs_s, if_neg c120]; rfl) hF) ⟨rfl, rfl, rfl, rfl, trivial⟩)
set_option maxHeartbeats 4000000 in
set_option maxRecDepth 100000 in
theorem cX5_read_ok (l : Launch) (g : Gz) (κ : Kz) (I : Iz) (R : Rz) (J : Jz) (A : Nat → Nat) (b n : Nat) (pg : Nat → Nat) (hg : LGg κ R A b) (hp : LPg κ R A) (hb : 3 ≤ b) (h0 : cpg I A n pg) (hseg : segB pg n = true) : Ct l mX5_read 0 0 g [.ref (A b), .ref (A 1)] κ I R J (Sv κ R J (fun I1 => cseg I1 A b (sgOf pg n) ∧ I1 (A b) 5 = nI 0 ∧ Fsg A b I I1)) := by
  refine ct_of (by decide) (Nat.le_of_ble_eq_true rfl) ?_
  intro z hz hr hrc hrs
  have hz : Am z cX5_read RX5 5 2 := hz
  have hr : Rt z yX5_read none 0 0 _ := hr
  show V z 5 0 0 0 [(0, .ref (A b)), (1, .ref (A 1))] [] κ I R J
  obtain ⟨hk, ho, ⟨hR0, hK1, hN1, ho1⟩, ⟨hR1, hK2, hN2, ho2⟩, hrow⟩ := id hg
  have hne : A b ≠ A (b + 2) := tag_ne ho ho2 (by omega)
  obtain ⟨pk, pR0, pK2, pN2, po1, po2⟩ := id hp
  obtain ⟨hok, hgn, hoki⟩ := segB_ok hseg
  have hn48 := h0.1
  have hsome : (aru pg n).isSome = true := by
    unfold segB at hseg
    cases e : aru pg n with
    | none => rw [e] at hseg; cases hseg
    | some q => rfl
  have hsk := (hrow 0 (by omega)).2.1
  have np1 : ∀ s, s < 8 → A 1 ≠ A (b + 3 + 2 * s) ∧ A 1 ≠ A (b + 3 + 2 * s + 1) := fun s hs => ⟨tag_ne po1 (hrow s hs).2.2.2.2.2.1 (by omega), tag_ne po1 (hrow s hs).2.2.2.2.2.2 (by omega)⟩
  have np2 : ∀ s, s < 8 → A 2 ≠ A (b + 3 + 2 * s) ∧ A 2 ≠ A (b + 3 + 2 * s + 1) := fun s hs => ⟨tag_ne po2 (hrow s hs).2.2.2.2.2.1 (by omega), tag_ne po2 (hrow s hs).2.2.2.2.2.2 (by omega)⟩
  have npb : ∀ s, s < 8 → A b ≠ A (b + 3 + 2 * s) ∧ A b ≠ A (b + 3 + 2 * s + 1) := fun s hs => ⟨tag_ne ho (hrow s hs).2.2.2.2.2.1 (by omega), tag_ne ho (hrow s hs).2.2.2.2.2.2 (by omega)⟩
  refine v_aload_n hz dX5_read_0 rfl ?_
  refine v_getR hz fX5_11 (by assumption) (by assumption) dX5_read_1 ?_
  refine v_ic (v := nI 0) hz dX5_read_4 (by decide) ?_
  refine v_aaldN hz (by omega) (by assumption) (by omega) (by decide) (hrow 0 (by omega)).1 dX5_read_5 ?_
  refine v_callVv hz lX5_22 (cX6_clear_ok _ _ _ _ _ _ A _ (hrow 0 (by omega)).2) (by assumption) rfl rfl (Nat.le_of_ble_eq_true rfl) (by decide) ⟨Nat.zero_le _, Nat.zero_le _⟩ dX5_read_6 (fun I1 h6 => ?_)
  subst h6
  refine v_ic (v := nI 0) hz dX5_read_9 (by decide) ?_
  refine v_istore_n hz dX5_read_10 (by decide) rfl ?_
  refine v_ic (v := nI 0) hz dX5_read_11 (by decide) ?_
  refine v_istore_n hz dX5_read_12 (by decide) rfl ?_
  refine v_sub (lp_X5_read_1 hz hg hp hb (I0 := I) h0 hsome (fun I1 hF hcs hk7 => ?_) (n + 1) 0 _ (by omega) (by omega) (Frs.clear (k := 0) (fun _ _ => rfl) (by omega)) (fun s hs => by
    have e : s = 0 := by have : s ≤ 0 := hs; omega
    subst e
    exact csn_clear)) ⟨rfl, rfl, rfl, rfl, trivial⟩
  refine v_aload_n hz dX5_read_79 rfl ?_
  refine v_iload_n hz dX5_read_80 rfl ?_
  refine v_ic (v := nI 1) hz dX5_read_81 (by decide) ?_
  first | with_reducible refine v_iaddN hz dX5_read_82 ?_ | refine v_iadd hz dX5_read_82 ?_
  refine v_putI hz fX5_38 (by assumption) dX5_read_83 ?_
  refine v_aload_n hz dX5_read_86 rfl ?_
  refine v_ic (v := nI 0) hz dX5_read_87 (by decide) ?_
  refine v_putI hz fX5_41 (by assumption) dX5_read_88 ?_
  refine v_aload_n hz dX5_read_91 rfl ?_
  refine v_ic (v := nI 0) hz dX5_read_92 (by decide) ?_
  refine v_putI hz fX5_44 (by assumption) dX5_read_93 ?_
  refine v_aload_n hz dX5_read_96 rfl ?_
  refine v_ic (v := nI 0) hz dX5_read_97 (by decide) ?_
  refine v_putI hz fX5_47 (by assumption) dX5_read_98 ?_
  refine v_ic (v := nI 0) hz dX5_read_101 (by decide) ?_
  refine v_istore_n hz dX5_read_102 (by decide) rfl ?_
  refine v_gen (fun I2 hI2 => ?_)
  have hI2o : ∀ a, a ≠ A b → I2 a = I1 a := fun a ha => by rw [hI2, u2_ne ha, u2_ne ha, u2_ne ha, u2_ne ha]
  refine v_sub (lp_X5_read_2 (S := sgOf pg n) hz hg hok (by omega) (I0 := I2) (fun s hs => (hcs s (by have : s < (prs pg n).1 + 1 := hs; omega)).keep (hI2o _ (Ne.symm (npb s (by have : s < (prs pg n).1 + 1 := hs; omega)).1)) (hI2o _ (Ne.symm (npb s (by have : s < (prs pg n).1 + 1 := hs; omega)).2))) hr (fun I3 a1 a2 a3 => ⟨rfl, rfl, rfl, rfl, a1, a2, fun a ha => ?_⟩) ((sgOf pg n).1 + 1) 0 I2 (fun _ => 0) (by omega) (by omega) (by rw [hI2, u2_at (by decide), u2_at (by decide), u2_at (by decide), u2_eq]; rfl) (by rw [hI2, u2_at (by decide), u2_at (by decide), u2_eq]; rfl) (by rw [hI2, u2_eq]) ⟨by simp [gsm, sm], by rw [hI2, u2_at (by decide), u2_eq]; rfl, fun i hi => absurd hi (by simp [gsm, sm]), fun i j h1 h2 => absurd h2 (by simp [gsm, sm])⟩ (fun c => rfl) (fun _ _ _ => rfl)) ⟨rfl, rfl, rfl, rfl, trivial⟩
  rw [a3 a (ha b (by omega) (by omega)) (ha (b + 2) (by omega) (by omega)), hI2o a (ha b (by omega) (by omega))]
  exact hF a (fun s hs => ⟨ha _ (by omega) (by omega), ha _ (by omega) (by omega)⟩)
