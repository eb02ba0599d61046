/-! ===== the class: the question ===== -/
def rT (t : Nat) : Prop := aT t ∨ (65 ≤ t ∧ t < 125)
theorem rT_n {t : Nat} (h : t < 8 ∨ (8 < t ∧ t < 20) ∨ (49 ≤ t ∧ t < 65) ∨ 125 ≤ t) : ¬ rT t := fun q => by
  rcases q with (q | q | q) | q <;> omega
theorem rT_c {t : Nat} (h : rT t) : cT t := by rcases h with (q | q | q) | q <;> exact Or.inl (by omega)
theorem aT_lt {t : Nat} (h : aT t) : t < 49 := by rcases h with q | q | q <;> omega
theorem cmp_put {κ : Kz} {R : Rz} {A : Nat → Nat} {I : Iz} {b w f : Nat} {S T : Sg} {x : Int32} (hc : LCg κ R A b) (h : cmpC I A b w S T) (hf : 10 ≤ f) : cmpC (u2 I (A b) f x) A b w S T := by
  have e : ∀ t, b < t → t < b + 5 → u2 I (A b) f x (A t) = I (A t) := fun t h1 h2 => u2_ne (tag_ne (hc.tag (by omega) h2) hc.2.1 (by omega))
  obtain ⟨a1, a2, a3, a4, k, b1, b2, b3, b4, b5⟩ := h
  unfold cmpC stpC cAr
  rw [u2_at (by omega), u2_at (by omega), u2_at (by omega), u2_at (by omega), u2_at (by omega), u2_at (by omega), e (b + 1) (by omega) (by omega), e (b + 2) (by omega) (by omega), e (b + 3) (by omega) (by omega), e (b + 4) (by omega) (by omega)]
  exact ⟨a1, a2, a3, a4, k, b1, b2, b3, b4, b5⟩
theorem rwC.of {κ : Kz} {R : Rz} {A : Nat → Nat} {I I1 : Iz} {b w bd : Nat} {S T : Sg} (hc : LCg κ R A b) (h : cmpC I A b w S T) (e : I1 = u2 (u2 (u2 (u2 I (A b) 10 (nI (rmO bd (cal w S + cal w T)))) (A b) 11 (cbL w (wds S) (wds T) (S.1 - wds S) (T.1 - wds T) (rmO bd (cal w S + cal w T)))) (A b) 12 (cbG (grn S) (grn T) (shn S T) (rmO bd (cal w S + cal w T)))) (A b) 13 (bz (bd ≤ sco w S T))) : rwC I1 A b w bd S T := by
  subst e
  refine ⟨cmp_put hc (cmp_put hc (cmp_put hc (cmp_put hc h (by omega)) (by omega)) (by omega)) (by omega), ?_, ?_, ?_, u2_eq⟩
  · rw [u2_at (by decide), u2_at (by decide), u2_at (by decide), u2_eq]
  · rw [u2_at (by decide), u2_at (by decide), u2_eq]
  · rw [u2_at (by decide), u2_eq]
theorem bz_dec {q : Prop} [Decidable q] : bz q = bz (decide q = true) := bz_c decide_eq_true_iff.symm
theorem sco_le (w : Nat) (S T : Sg) : sco w S T ≤ 1000 := Nat.sub_le _ _
theorem rwC.rwO {I : Iz} {A : Nat → Nat} {b w bd : Nat} {ks : Nat → Sg} {i : Nat} {T : Sg} (h : rwC I A b w bd (ks i) T) (h1 : (ks i).1 ≤ 8) (h2 : T.1 ≤ 8) : rwO I A b w (ks i) T (nsF w ks T i) (scF w ks T i) (tgF w ks T i) (lnB w bd ks T i) (gmB w bd ks T i) (mtB w bd ks T i) := by
  obtain ⟨⟨a1, a2, a3, a4, k, a5⟩, c1, c2, c3, c4⟩ := h
  have e : nsf w (ks i) T = k := nsf_eq a5.1
  unfold nsF scF tgF
  rw [e]
  have := ttg_le w (ks i) T k
  exact ⟨a5, a4, sco_le _ _ _, a5.2.2.2.1, by have := a5.2.1; omega, c2.trans bz_dec, c3.trans bz_dec, c4.trans bz_dec⟩
set_option maxHeartbeats 4000000 in
set_option maxRecDepth 100000 in
theorem lp_rf {z : Zz} {κ : Kz} {I0 : Iz} {R : Rz} {J : Jz} {A sb : Nat → Nat} (hn : LNg κ R A sb) (hz : Am z cX7_refreshFindings RX7 3 5) {pg : Nat → Nat} {n kn : Nat} {ks : Nat → Sg} {tm : Nat → Int32} {T : Sg} {qa w bd : Nat} {te td : Int32} (hs : CS I0 A sb pg n kn ks tm T qa w bd te td) (hv : ∀ i, i < kn → okQ (ks i)) (hvT : 0 < qa → okQ T) (hqa : 0 < qa) (hr : Rt z yX7_refreshFindings none 0 0 (Sv κ R J (fun I1 => Ft κ cT I0 I1 ∧ CS I1 A sb pg n kn ks tm T qa w bd te td ∧ FD I1 A kn ks T w bd))) :
    ∀ (m i : Nat) (I : Iz), i ≤ kn → kn + 1 ≤ i + m → Ft κ rT I0 I → (∀ j, j < i → rwC I A (65 + 5 * j) w bd (ks j) T) → V z 3 0 0 10 [(0, .ref (A 9)), (1, .int (nI i))] [] κ I R J := by
  obtain ⟨k9, o9, ⟨r0, r1, r2, r3, r4, r5, r6⟩, ⟨k10, n10, o10⟩, hsh, hgap, hp, hx, ha, hc, hf, hq⟩ := id hn
  have kp := hp.1
  have op := hp.2.2.2.2.1
  have op2 := hp.2.2.2.2.2
  have kx := hx.1
  have ka := ha.1
  have kc := hc.1
  have kf := hf.1
  have kq := hq.1
  obtain ⟨_, of, ⟨rf0, kf0, nf0, hfr⟩, ⟨rf1, kf1, nf1, of1⟩, ⟨rf2, kf2, nf2, of2⟩⟩ := id hf
  obtain ⟨h0, ⟨h2, h3, h4⟩, ⟨h5, h6⟩, ⟨h8, h8a, h8b, h9, h10⟩, ⟨h11, h12⟩, h13, ⟨h14, h15⟩⟩ := id hs
  have oT := hvT hqa
  intro m
  induction m with
  | zero => intro i I hi hm9; exact absurd hm9 (by omega)
  | succ m ih =>
  intro i I hi hm9 hF hrw
  have e9 : I (A 9) = I0 (A 9) := hF.at o9 (rT_n (by omega))
  have h4' := keptF hn hF (by omega) h4 (fun t a b => rT_n (by omega))
  have h6' := (h6 hqa).ft hq hF (fun t a b => rT_n (by omega))
  refine v_iload_n hz dX7_refreshFindings_10 rfl ?_
  refine v_aload_n hz dX7_refreshFindings_11 rfl ?_
  refine v_getI hz fX7_87 (by assumption) dX7_refreshFindings_12 ?_
  refine v_top (y := nI kn) (by rw [e9]; exact h3) ?_
  with_reducible refine v_icmp_geN hz 78 (by omega) (by omega) dX7_refreshFindings_15 (by decide) (fun c15 => ?_) (fun c15 => ?_)
  · refine v_aload_n hz dX7_refreshFindings_78 rfl ?_
    refine v_getR hz fX7_51 (by assumption) (by assumption) dX7_refreshFindings_79 ?_
    refine v_aload_n hz dX7_refreshFindings_82 rfl ?_
    refine v_getI hz fX7_87 (by assumption) dX7_refreshFindings_83 ?_
    refine v_top (y := nI kn) (by rw [e9]; exact h3) ?_
    refine v_callVv hz lX7_234 (cX2_gather_ok _ _ _ _ _ _ A hf w kn ks T (nsF w ks T) (scF w ks T) (tgF w ks T) (lnB w bd ks T) (gmB w bd ks T) (mtB w bd ks T) h2 (fun j hj => (hv j hj).1) oT.1 h8b (fun j hj => (hrw j (by omega)).rwO (hv j hj).1.2.1 oT.1.2.1)) (by assumption) rfl rfl (Nat.le_of_ble_eq_true rfl) (by decide) ⟨Nat.zero_le _, Nat.zero_le _⟩ dX7_refreshFindings_86 (fun I4 q86 => ?_)
    refine v_aload_n hz dX7_refreshFindings_89 rfl ?_
    refine v_ic (v := nI 0) hz dX7_refreshFindings_90 (by decide) ?_
    refine v_putZ hz fX7_62 (by assumption) (by first | exact Or.inl rfl | exact Or.inr rfl | exact bz_01) dX7_refreshFindings_91 ?_
    exact v_vret hz hr dX7_refreshFindings_94 (by
      have hF5 : Ft κ (fun t => t = 11 ∨ t = 13 ∨ t = 14) I I4 := q86.1.ft hf
      have hF6 : Ft κ (fun t => t = 9) I4 (u2 I4 (A 9) 13 (nI 0)) := Ft.rf.p1 o9
      have hFA : Ft κ (fun t => rT t ∨ t = 9 ∨ t = 11 ∨ t = 13 ∨ t = 14) I0 (u2 I4 (A 9) 13 (nI 0)) := (hF.wid (fun t ht => Or.inl ht)).tr ((hF5.wid (fun t ht => by omega)).tr (hF6.wid (fun t ht => by omega)))
      have nA : ∀ t, (t < 8 ∨ t = 10 ∨ t = 12 ∨ (14 < t ∧ t < 20) ∨ (49 ≤ t ∧ t < 65) ∨ 125 ≤ t) → ¬ (rT t ∨ t = 9 ∨ t = 11 ∨ t = 13 ∨ t = 14) := fun t h q => q.elim (rT_n (by omega)) (by omega)
      have k9f : ∀ x, x ≠ 13 → u2 I4 (A 9) 13 (nI 0) (A 9) x = I0 (A 9) x := fun x hx => by rw [u2_at hx, hF5.at o9 (by omega), e9]
      have hFD : FD (u2 I4 (A 9) 13 (nI 0)) A kn ks T w bd := by
        refine ⟨fun j hj => ?_, ?_⟩
        · exact (((hrw j (by omega)).ft (hfr j (by omega)).2 hF5 (fun t a b => by omega)).ft (hfr j (by omega)).2 hF6 (fun t a b => by omega))
        · have q := q86.2
          unfold fnd at q ⊢
          rw [hF6.at of (by omega), hF6.at of1 (by omega), hF6.at of2 (by omega)]
          exact q
      refine ⟨hFA.wid (fun t ht => ?_), ⟨h0.ft hp hFA (nA _ (by omega)) (nA _ (by omega)), ⟨h2, (k9f 7 (by decide)).trans h3, keptF hn hFA (by omega) h4 (fun t a b => nA _ (by omega))⟩, ⟨(k9f 12 (by decide)).trans h5, fun q => (h6 q).ft hq hFA (fun t a b => nA _ (by omega))⟩, ⟨(k9f 8 (by decide)).trans h8, h8a, h8b, (k9f 9 (by decide)).trans h9, h10⟩, ⟨(k9f 10 (by decide)).trans h11, (k9f 11 (by decide)).trans h12⟩, h13.ft hx hFA (nA _ (by omega)) (nA _ (by omega)), ⟨Or.inl u2_eq, fun _ => hFD⟩⟩, hFD⟩
      rcases ht with h | h
      · exact rT_c h
      · exact Or.inl (by omega))
  · obtain ⟨ri, loi, hii, gi⟩ := hsh i (by omega)
    have ki := gi.1
    have kci := (hfr i (by omega)).2.1
    have oi := hv i (by omega)
    obtain ⟨Gi, ci4, -⟩ := (h4' i (by omega)).1.2
    obtain ⟨GT, cT4, -⟩ := h6'.2
    refine v_aload_n hz dX7_refreshFindings_18 rfl ?_
    refine v_getR hz fX7_51 (by assumption) (by assumption) dX7_refreshFindings_19 ?_
    refine v_getR hz fX7_174 (by assumption) (by assumption) dX7_refreshFindings_22 ?_
    refine v_iload_n hz dX7_refreshFindings_25 rfl ?_
    refine v_aaldN hz (by omega) (by assumption) (by omega) (by decide) (hfr i (by omega)).1 dX7_refreshFindings_26 ?_
    refine v_astore_n hz dX7_refreshFindings_27 (by decide) rfl ?_
    refine v_aload_n hz dX7_refreshFindings_28 rfl ?_
    refine v_getR hz fX7_37 (by assumption) (by assumption) dX7_refreshFindings_29 ?_
    refine v_aload_n hz dX7_refreshFindings_32 rfl ?_
    refine v_getR hz fX7_18 (by assumption) (by assumption) dX7_refreshFindings_33 ?_
    refine v_iload_n hz dX7_refreshFindings_36 rfl ?_
    refine v_aaldN hz (by omega) (by assumption) (by omega) (by decide) ri dX7_refreshFindings_37 ?_
    refine v_aload_n hz dX7_refreshFindings_38 rfl ?_
    refine v_getR hz fX7_23 (by assumption) (by assumption) dX7_refreshFindings_39 ?_
    refine v_aload_n hz dX7_refreshFindings_42 rfl ?_
    refine v_getI hz fX7_55 (by assumption) dX7_refreshFindings_43 ?_
    refine v_top (y := nI w) (by rw [e9]; exact h8) ?_
    refine v_aload_n hz dX7_refreshFindings_46 rfl ?_
    refine v_callVv hz lX7_151 (cX0_compare_ok _ _ _ _ _ _ A ha w (sb i) 460 (65 + 5 * i) (ks i) T gi hq (hfr i (by omega)).2 loi (by decide) (by omega) (h4' i (by omega)).1 h6' oi.1.1 ⟨h8a, h8b⟩) (by assumption) rfl rfl (Nat.le_of_ble_eq_true rfl) (by decide) ⟨Nat.zero_le _, Nat.zero_le _⟩ dX7_refreshFindings_47 (fun I2 q47 => ?_)
    have hFi : Ft κ (fun t => aT t ∨ (65 + 5 * i ≤ t ∧ t < 65 + 5 * i + 5)) I I2 := q47.1.ft ha (hfr i (by omega)).2
    have e29 : I2 (A 9) = I0 (A 9) := (hFi.at o9 (fun q => q.elim (naT (by omega)) (by omega))).trans e9
    have gi2 := hFi.at gi.2.1 (fun q => q.elim (naT (by omega)) (by omega))
    have ga2 := hFi.at hq.2.1 (fun q => q.elim (naT (by omega)) (by omega))
    have w1 := wds_le (ks i)
    have w2 := wds_le T
    refine v_aload_n hz dX7_refreshFindings_50 rfl ?_
    refine v_aload_n hz dX7_refreshFindings_51 rfl ?_
    refine v_getR hz fX7_18 (by assumption) (by assumption) dX7_refreshFindings_52 ?_
    refine v_iload_n hz dX7_refreshFindings_55 rfl ?_
    refine v_aaldN hz (by omega) (by assumption) (by omega) (by decide) ri dX7_refreshFindings_56 ?_
    refine v_aload_n hz dX7_refreshFindings_57 rfl ?_
    refine v_getR hz fX7_23 (by assumption) (by assumption) dX7_refreshFindings_58 ?_
    refine v_aload_n hz dX7_refreshFindings_61 rfl ?_
    refine v_getI hz fX7_55 (by assumption) dX7_refreshFindings_62 ?_
    refine v_top (y := nI w) (by rw [e29]; exact h8) ?_
    refine v_aload_n hz dX7_refreshFindings_65 rfl ?_
    refine v_getI hz fX7_59 (by assumption) dX7_refreshFindings_66 ?_
    refine v_top (y := nI bd) (by rw [e29]; exact h9) ?_
    refine v_callVv hz lX7_230 (cX1_judge_ok _ _ _ _ _ _ A (65 + 5 * i) (hfr i (by omega)).2 (sb i) 460 w bd (cal w (ks i) + cal w T) (shn (ks i) T) (sco w (ks i) T) (wds (ks i)) (ks i).1 (grn (ks i)) (wds T) T.1 (grn T) gi hq h10 h8b (by have := cal_le (S := ks i) h8b oi.1.2.1; have := cal_le (S := T) h8b oT.1.2.1; omega) (sco_le _ _ _) w1 oi.1.2.1 (by have := oi.2.1; omega) w2 oT.1.2.1 (by have := oT.2.1; omega) (tag_ne gi.2.1 (hfr i (by omega)).2.2.1 (by omega)) (tag_ne hq.2.1 (hfr i (by omega)).2.2.1 (by omega)) q47.2.1.2.1 q47.2.1.2.2.1 q47.2.1.2.2.2.1 (by rw [gi2]; exact (h4' i (by omega)).1.1.2.1) (by rw [gi2]; exact (h4' i (by omega)).1.1.2.2.1) (by rw [gi2]; exact ci4.2.1) (by rw [ga2]; exact h6'.1.2.1) (by rw [ga2]; exact h6'.1.2.2.1) (by rw [ga2]; exact cT4.2.1)) (by assumption) rfl rfl (Nat.le_of_ble_eq_true rfl) (by decide) ⟨Nat.zero_le _, Nat.zero_le _⟩ dX7_refreshFindings_69 (fun I3 q69 => ?_)
    first | refine v_iincN hz 1 dX7_refreshFindings_72 (by decide) rfl (by decide) rfl ?_ | refine v_iinc hz dX7_refreshFindings_72 rfl (by decide) rfl ?_
    refine v_goto hz 10 dX7_refreshFindings_75 (by decide) ?_
    have hFi3 : Ft κ (fun t => aT t ∨ (65 + 5 * i ≤ t ∧ t < 65 + 5 * i + 5)) I I3 := by
      rw [q69]; exact (((hFi.put (hfr i (by omega)).2.2.1 (Or.inr (by omega))).put (hfr i (by omega)).2.2.1 (Or.inr (by omega))).put (hfr i (by omega)).2.2.1 (Or.inr (by omega))).put (hfr i (by omega)).2.2.1 (Or.inr (by omega))
    refine v_sub (ih (i + 1) I3 (by omega) (by omega) (hF.tr (hFi3.wid (fun t ht => ht.elim Or.inl (fun h => Or.inr (by omega))))) (fun j hj => ?_)) ⟨rfl, rfl, trivial⟩
    by_cases e : j = i
    · rw [e]; exact rwC.of (hfr i (by omega)).2 q47.2.1 q69
    · exact (hrw j (by omega)).ft (hfr j (by omega)).2 hFi3 (fun t a b q => q.elim (naT (by omega)) (by omega))
set_option maxHeartbeats 4000000 in
set_option maxRecDepth 100000 in
theorem cX7_refreshFindings_ok (l : Launch) (g : Gz) (κ : Kz) (I : Iz) (R : Rz) (J : Jz) (A sb : Nat → Nat) (hn : LNg κ R A sb) (pg : Nat → Nat) (n kn : Nat) (ks : Nat → Sg) (tm : Nat → Int32) (T : Sg) (qa w bd : Nat) (te td : Int32) (hs : CS I A sb pg n kn ks tm T qa w bd te td) (hv : ∀ i, i < kn → okQ (ks i)) (hvT : 0 < qa → okQ T) (hqa : 0 < qa) : Ct l mX7_refreshFindings 0 0 g [.ref (A 9)] κ I R J (Sv κ R J (fun I1 => Ft κ cT I I1 ∧ CS I1 A sb pg n kn ks tm T qa w bd te td ∧ FD I1 A kn ks T w bd)) := by
  refine ct_of (by decide) (Nat.le_of_ble_eq_true rfl) ?_
  intro z hz hr hrc hrs
  have hz : Am z cX7_refreshFindings RX7 3 5 := hz
  have hr : Rt z yX7_refreshFindings none 0 0 _ := hr
  show V z 3 0 0 0 [(0, .ref (A 9))] [] κ I R J
  obtain ⟨k9, o9, ⟨r0, r1, r2, r3, r4, r5, r6⟩, ⟨k10, n10, o10⟩, hsh, hgap, hp, hx, ha, hc, hf, hq⟩ := id hn
  have kp := hp.1
  have op := hp.2.2.2.2.1
  have op2 := hp.2.2.2.2.2
  have kx := hx.1
  have ka := ha.1
  have kc := hc.1
  have kf := hf.1
  have kq := hq.1
  obtain ⟨h0, ⟨h2, h3, h4⟩, ⟨h5, h6⟩, ⟨h8, h8a, h8b, h9, h10⟩, ⟨h11, h12⟩, h13, ⟨h14, h15⟩⟩ := id hs
  refine v_aload_n hz dX7_refreshFindings_0 rfl ?_
  refine v_getI hz fX7_62 (by assumption) dX7_refreshFindings_1 ?_
  refine v_if_ne hz 8 dX7_refreshFindings_4 (by decide) (fun c4 => ?_) (fun c4 => ?_)
  · refine v_ic (v := nI 0) hz dX7_refreshFindings_8 (by decide) ?_
    refine v_istore_n hz dX7_refreshFindings_9 (by decide) rfl ?_
    exact v_sub (lp_rf hn hz hs hv hvT hqa hr (kn + 1) 0 I (by omega) (by omega) Ft.rf (fun j hj => absurd hj (Nat.not_lt_zero j))) ⟨rfl, rfl, trivial⟩
  · exact v_vret hz hr dX7_refreshFindings_7 ⟨Ft.rf, hs, h15 (by first | exact c4 | exact Classical.not_not.mp c4)⟩
theorem nr_tell {I : Iz} {A : Nat → Nat} {b w bd v : Nat} {S T : Sg} (h : rwC I A b w bd S T) (hv : v < 10) : I (A b) (cmf v) = nrT w bd S T v := by
  by_cases h5 : v < 5
  · rw [tw_tell h.1 h5]
    unfold nrT
    rw [if_neg (by omega), if_neg (by omega), if_neg (by omega), if_neg (by omega), if_neg (by omega)]
  obtain ⟨⟨a1, a2, a3, a4, k, a5⟩, c1, c2, c3, c4⟩ := h
  rcases (show v = 5 ∨ v = 6 ∨ v = 7 ∨ v = 8 ∨ v = 9 by omega) with rfl | rfl | rfl | rfl | rfl
  · exact c1
  · exact c2
  · exact c3
  · exact c4
  · show I (A b) 8 = nI (ttg w S T (nsf w S T))
    rw [nsf_eq a5.1]; exact a5.2.2.2.1
theorem segT5 {S : Sg} {t t' : Int32} {w v : Nat} (h : v < 5) : segT S t w v = segT S t' w v := by
  rcases (show v = 0 ∨ v = 1 ∨ v = 2 ∨ v = 3 ∨ v = 4 by omega) with rfl | rfl | rfl | rfl | rfl <;> rfl
set_option maxHeartbeats 4000000 in
set_option maxRecDepth 100000 in
theorem cX7_near_ok (l : Launch) (g : Gz) (κ : Kz) (I : Iz) (R : Rz) (J : Jz) (A sb : Nat → Nat) (hn : LNg κ R A sb) (pg : Nat → Nat) (n kn : Nat) (ks : Nat → Sg) (tm : Nat → Int32) (T : Sg) (qa w bd : Nat) (te td : Int32) (hs : CS I A sb pg n kn ks tm T qa w bd te td) (hv : ∀ i, i < kn → okQ (ks i)) (hvT : 0 < qa → okQ T) (hqb : qa < 2147483648) (x y : Int32) : Ct l mX7_near 0 0 g [.ref (A 9), .int x, .int y] κ I R J (Si κ R J (fun r I1 => r = nerR kn ks T qa w bd x y ∧ Ft κ cT I I1 ∧ CS I1 A sb pg n kn ks tm T qa w bd te td)) := by
  refine ct_of (by decide) (Nat.le_of_ble_eq_true rfl) ?_
  intro z hz hr hrc hrs
  have hz : Am z cX7_near RX7 3 6 := hz
  have hr : Rt z yX7_near (some .int) 0 0 _ := hr
  show V z 3 0 0 0 [(0, .ref (A 9)), (1, .int x), (2, .int y)] [] κ I R J
  obtain ⟨k9, o9, ⟨r0, r1, r2, r3, r4, r5, r6⟩, ⟨k10, n10, o10⟩, hsh, hgap, hp, hx, ha, hc, hf, hq⟩ := id hn
  have kp := hp.1
  have op := hp.2.2.2.2.1
  have op2 := hp.2.2.2.2.2
  have kx := hx.1
  have ka := ha.1
  have kc := hc.1
  have kf := hf.1
  have kq := hq.1
  obtain ⟨h0, ⟨h2, h3, h4⟩, ⟨h5, h6⟩, ⟨h8, h8a, h8b, h9, h10⟩, ⟨h11, h12⟩, h13, ⟨h14, h15⟩⟩ := id hs
  refine v_aload_n hz dX7_near_0 rfl ?_
  refine v_iload_n hz dX7_near_1 rfl ?_
  refine v_callVi hz lX7_108 (cX7_isKept_ok _ _ _ _ _ _ A sb hn kn x h3) (by assumption) rfl rfl (Nat.le_of_ble_eq_true rfl) (by decide) ⟨Nat.zero_le _, Nat.zero_le _⟩ dX7_near_2 (fun r I9 qk => ?_)
  obtain ⟨rfl, eIqk⟩ := qk
  rw [eIqk]
  with_reducible refine v_if_neB hz 12 dX7_near_5 (by decide) (fun c5 => ?_) (fun c5 => ?_)
  · obtain ⟨s, rfl, hsk⟩ := kpt_of (by omega) c5
    refine v_iload_n hz dX7_near_12 rfl ?_
    refine v_bi (v := nI 10) hz dX7_near_13 (by decide) ?_
    refine v_callSi hz lX7_124 (cX7_isWithin_ok _ _ _ _ _ _ _ _) rfl rfl (Nat.le_of_ble_eq_true rfl) (by decide) ⟨Nat.zero_le _, Nat.zero_le _⟩ dX7_near_15 (fun r I9 qw => ?_)
    obtain ⟨rfl, eIqw⟩ := qw
    rw [eIqw]
    with_reducible refine v_if_neB hz 25 dX7_near_18 (by decide) (fun c18 => ?_) (fun c18 => ?_)
    · obtain ⟨v, rfl, hv1⟩ := kpt_of (by omega) c18
      refine v_aload_n hz dX7_near_25 rfl ?_
      refine v_callVi hz lX7_168 (cX7_hasQuestion_ok _ _ _ _ _ _ A sb hn qa hqb h5) (by assumption) rfl rfl (Nat.le_of_ble_eq_true rfl) (by decide) ⟨Nat.zero_le _, Nat.zero_le _⟩ dX7_near_26 (fun r I9 qh => ?_)
      obtain ⟨rfl, eIqh⟩ := qh
      rw [eIqh]
      with_reducible refine v_if_neB hz 36 dX7_near_29 (by decide) (fun c29 => ?_) (fun c29 => ?_)
      · refine v_aload_n hz dX7_near_36 rfl ?_
        refine v_callVv hz lX7_171 (cX7_refreshFindings_ok _ _ _ _ _ _ A sb hn pg n kn ks tm T qa w bd te td hs hv hvT c29) (by assumption) rfl rfl (Nat.le_of_ble_eq_true rfl) (by decide) ⟨Nat.zero_le _, Nat.zero_le _⟩ dX7_near_37 (fun I2 qr => ?_)
        obtain ⟨hF2, hs2, hfd⟩ := qr
        obtain ⟨h0, ⟨h2, h3, h4⟩, ⟨h5, h6⟩, ⟨h8, h8a, h8b, h9, h10⟩, ⟨h11, h12⟩, h13, ⟨h14, h15⟩⟩ := id hs2
        obtain ⟨_, of, ⟨rf0, kf0, nf0, hfr⟩, ⟨rf1, kf1, nf1, of1⟩, ⟨rf2, kf2, nf2, of2⟩⟩ := id hf
        refine v_aload_n hz dX7_near_40 rfl ?_
        refine v_getR hz fX7_51 (by assumption) (by assumption) dX7_near_41 ?_
        refine v_getR hz fX7_174 (by assumption) (by assumption) dX7_near_44 ?_
        refine v_iload_n hz dX7_near_47 rfl ?_
        refine v_aaldN hz (by omega) (by assumption) (by omega) (by decide) (hfr s (by omega)).1 dX7_near_48 ?_
        refine v_iload_n hz dX7_near_49 rfl ?_
        refine v_callVi hz lX7_155 (cX1_tell_ok _ _ _ _ _ _ A (65 + 5 * s) (hfr s (by omega)).2 v hv1 (by rw [(hfd.1 s hsk).2.2.1]; exact bz_01) (by rw [(hfd.1 s hsk).2.2.2.1]; exact bz_01) (by rw [(hfd.1 s hsk).2.2.2.2]; exact bz_01)) (hfr s (by omega)).2.1 rfl rfl (Nat.le_of_ble_eq_true rfl) (by decide) ⟨Nat.zero_le _, Nat.zero_le _⟩ dX7_near_50 (fun r I3 qt => ?_)
        obtain ⟨rfl, eIqt⟩ := qt
        rw [eIqt]
        exact v_iret hz hr dX7_near_53 ⟨by unfold nerR; rw [if_pos c5, if_pos c18, if_pos c29, nI_clamp (by omega), nI_clamp (by omega)]; exact nr_tell (hfd.1 s hsk) hv1, hF2, hs2⟩
      · refine v_si (v := (-1003)) hz dX7_near_32 (by decide) ?_
        exact v_iret hz hr dX7_near_35 ⟨by unfold nerR; rw [if_pos c5, if_pos c18, if_neg c29], Ft.rf, hs⟩
    · refine v_si (v := (-1002)) hz dX7_near_21 (by decide) ?_
      exact v_iret hz hr dX7_near_24 ⟨by unfold nerR; rw [if_pos c5, if_neg c18], Ft.rf, hs⟩
  · refine v_si (v := (-1001)) hz dX7_near_8 (by decide) ?_
    exact v_iret hz hr dX7_near_11 ⟨by unfold nerR; rw [if_neg c5], Ft.rf, hs⟩
set_option maxHeartbeats 4000000 in
set_option maxRecDepth 100000 in
theorem cX7_step_ok (l : Launch) (g : Gz) (κ : Kz) (I : Iz) (R : Rz) (J : Jz) (A sb : Nat → Nat) (hn : LNg κ R A sb) (pg : Nat → Nat) (n kn : Nat) (ks : Nat → Sg) (tm : Nat → Int32) (T : Sg) (qa w bd : Nat) (te td : Int32) (hs : CS I A sb pg n kn ks tm T qa w bd te td) (hv : ∀ i, i < kn → okQ (ks i)) (hvT : 0 < qa → okQ T) (hqb : qa < 2147483648) (x y v : Int32) : Ct l mX7_step 0 0 g [.ref (A 9), .int x, .int y, .int v] κ I R J (Si κ R J (fun r I1 => r = stpR kn ks T qa w x y v ∧ Ft κ cT I I1 ∧ CS I1 A sb pg n kn ks tm T qa w bd te td)) := by
  refine ct_of (by decide) (Nat.le_of_ble_eq_true rfl) ?_
  intro z hz hr hrc hrs
  have hz : Am z cX7_step RX7 5 6 := hz
  have hr : Rt z yX7_step (some .int) 0 0 _ := hr
  show V z 5 0 0 0 [(0, .ref (A 9)), (1, .int x), (2, .int y), (3, .int v)] [] κ I R J
  obtain ⟨k9, o9, ⟨r0, r1, r2, r3, r4, r5, r6⟩, ⟨k10, n10, o10⟩, hsh, hgap, hp, hx, ha, hc, hf, hq⟩ := id hn
  have kp := hp.1
  have op := hp.2.2.2.2.1
  have op2 := hp.2.2.2.2.2
  have kx := hx.1
  have ka := ha.1
  have kc := hc.1
  have kf := hf.1
  have kq := hq.1
  obtain ⟨h0, ⟨h2, h3, h4⟩, ⟨h5, h6⟩, ⟨h8, h8a, h8b, h9, h10⟩, ⟨h11, h12⟩, h13, ⟨h14, h15⟩⟩ := id hs
  refine v_aload_n hz dX7_step_0 rfl ?_
  refine v_iload_n hz dX7_step_1 rfl ?_
  refine v_callVi hz lX7_108 (cX7_isKept_ok _ _ _ _ _ _ A sb hn kn x h3) (by assumption) rfl rfl (Nat.le_of_ble_eq_true rfl) (by decide) ⟨Nat.zero_le _, Nat.zero_le _⟩ dX7_step_2 (fun r I9 qk => ?_)
  obtain ⟨rfl, eIqk⟩ := qk
  rw [eIqk]
  with_reducible refine v_if_neB hz 12 dX7_step_5 (by decide) (fun c5 => ?_) (fun c5 => ?_)
  · obtain ⟨s, rfl, hsk⟩ := kpt_of (by omega) c5
    refine v_iload_n hz dX7_step_12 rfl ?_
    refine v_ic (v := nI 4) hz dX7_step_13 (by decide) ?_
    refine v_callSi hz lX7_124 (cX7_isWithin_ok _ _ _ _ _ _ _ _) rfl rfl (Nat.le_of_ble_eq_true rfl) (by decide) ⟨Nat.zero_le _, Nat.zero_le _⟩ dX7_step_14 (fun r I9 qw => ?_)
    obtain ⟨rfl, eIqw⟩ := qw
    rw [eIqw]
    with_reducible refine v_if_neB hz 24 dX7_step_17 (by decide) (fun c17 => ?_) (fun c17 => ?_)
    · obtain ⟨v, rfl, hv1⟩ := kpt_of (by omega) c17
      refine v_aload_n hz dX7_step_24 rfl ?_
      refine v_callVi hz lX7_168 (cX7_hasQuestion_ok _ _ _ _ _ _ A sb hn qa hqb h5) (by assumption) rfl rfl (Nat.le_of_ble_eq_true rfl) (by decide) ⟨Nat.zero_le _, Nat.zero_le _⟩ dX7_step_25 (fun r I9 qh => ?_)
      obtain ⟨rfl, eIqh⟩ := qh
      rw [eIqh]
      with_reducible refine v_if_neB hz 35 dX7_step_28 (by decide) (fun c28 => ?_) (fun c28 => ?_)
      · refine v_aload_n hz dX7_step_35 rfl ?_
        refine v_callVv hz lX7_171 (cX7_refreshFindings_ok _ _ _ _ _ _ A sb hn pg n kn ks tm T qa w bd te td hs hv hvT c28) (by assumption) rfl rfl (Nat.le_of_ble_eq_true rfl) (by decide) ⟨Nat.zero_le _, Nat.zero_le _⟩ dX7_step_36 (fun I2 qr => ?_)
        obtain ⟨hF2, hs2, hfd⟩ := qr
        obtain ⟨h0, ⟨h2, h3, h4⟩, ⟨h5, h6⟩, ⟨h8, h8a, h8b, h9, h10⟩, ⟨h11, h12⟩, h13, ⟨h14, h15⟩⟩ := id hs2
        obtain ⟨_, of, ⟨rf0, kf0, nf0, hfr⟩, ⟨rf1, kf1, nf1, of1⟩, ⟨rf2, kf2, nf2, of2⟩⟩ := id hf
        refine v_aload_n hz dX7_step_39 rfl ?_
        refine v_getR hz fX7_51 (by assumption) (by assumption) dX7_step_40 ?_
        refine v_getR hz fX7_174 (by assumption) (by assumption) dX7_step_43 ?_
        refine v_iload_n hz dX7_step_46 rfl ?_
        refine v_aaldN hz (by omega) (by assumption) (by omega) (by decide) (hfr s (by omega)).1 dX7_step_47 ?_
        obtain ⟨kk, hst⟩ := (hfd.1 s hsk).1.2.2.2.2
        have ek : nsf w (ks s) T = kk := nsf_eq hst.1
        have kcs := (hfr s (by omega)).2.1
        have hkk := hst.2.1
        have os := (hv s hsk).1.2.1
        have oT := (hvT c28).1.2.1
        refine v_astore hz dX7_step_48 (by decide) rfl ?_
        refine v_iload_n hz dX7_step_50 rfl ?_
        refine v_aload hz dX7_step_51 rfl ?_
        refine v_getI hz fX7_178 (by assumption) dX7_step_53 ?_
        refine v_top hst.2.2.1 ?_
        refine v_callSi hz lX7_124 (cX7_isWithin_ok _ _ _ _ _ _ _ _) rfl rfl (Nat.le_of_ble_eq_true rfl) (by decide) ⟨Nat.zero_le _, Nat.zero_le _⟩ dX7_step_56 (fun r I9 qw => ?_)
        obtain ⟨rfl, eIqw⟩ := qw
        rw [eIqw]
        with_reducible refine v_if_neB hz 66 dX7_step_59 (by decide) (fun c59 => ?_) (fun c59 => ?_)
        · obtain ⟨y, rfl, hy1⟩ := kpt_of (by omega) c59
          refine v_aload hz dX7_step_66 rfl ?_
          refine v_iload_n hz dX7_step_68 rfl ?_
          refine v_iload_n hz dX7_step_69 rfl ?_
          refine v_callVi hz lX7_181 (cX1_tellStep_ok _ _ _ _ _ _ A (65 + 5 * s) (hfr s (by omega)).2 y kk v hv1 hy1 (by omega) hst.2.2.1) (by assumption) rfl rfl (Nat.le_of_ble_eq_true rfl) (by decide) ⟨Nat.zero_le _, Nat.zero_le _⟩ dX7_step_70 (fun r I3 qt => ?_)
          obtain ⟨rfl, eIqt⟩ := qt
          rw [eIqt]
          exact v_iret hz hr dX7_step_73 (by
                refine ⟨?_, hF2, hs2⟩
                unfold stpR
                rw [if_pos c5, if_pos c17, if_pos c28, nI_clamp (by omega), ek, if_pos c59, nI_clamp (by omega), nI_clamp (by omega)]
                obtain ⟨a0, a1, a2, a3⟩ := hst.2.2.2.2 y hy1
                rcases (show v = 0 ∨ v = 1 ∨ v = 2 ∨ v = 3 by omega) with rfl | rfl | rfl | rfl
                · exact a0
                · exact a1
                · exact a2
                · exact a3)
        · refine v_si (v := (-1001)) hz dX7_step_62 (by decide) ?_
          exact v_iret hz hr dX7_step_65 ⟨by unfold stpR; rw [if_pos c5, if_pos c17, if_pos c28, nI_clamp (by omega), ek, if_neg c59], hF2, hs2⟩
      · refine v_si (v := (-1003)) hz dX7_step_31 (by decide) ?_
        exact v_iret hz hr dX7_step_34 ⟨by unfold stpR; rw [if_pos c5, if_pos c17, if_neg c28], Ft.rf, hs⟩
    · refine v_si (v := (-1002)) hz dX7_step_20 (by decide) ?_
      exact v_iret hz hr dX7_step_23 ⟨by unfold stpR; rw [if_pos c5, if_neg c17], Ft.rf, hs⟩
  · refine v_si (v := (-1001)) hz dX7_step_8 (by decide) ?_
    exact v_iret hz hr dX7_step_11 ⟨by unfold stpR; rw [if_neg c5], Ft.rf, hs⟩
set_option maxHeartbeats 4000000 in
set_option maxRecDepth 100000 in
theorem cX7_rank_ok (l : Launch) (g : Gz) (κ : Kz) (I : Iz) (R : Rz) (J : Jz) (A sb : Nat → Nat) (hn : LNg κ R A sb) (pg : Nat → Nat) (n kn : Nat) (ks : Nat → Sg) (tm : Nat → Int32) (T : Sg) (qa w bd : Nat) (te td : Int32) (hs : CS I A sb pg n kn ks tm T qa w bd te td) (hv : ∀ i, i < kn → okQ (ks i)) (hvT : 0 < qa → okQ T) (hqb : qa < 2147483648) (x : Int32) : Ct l mX7_rank 0 0 g [.ref (A 9), .int x] κ I R J (Si κ R J (fun r I1 => r = rnkR kn ks T qa w bd x ∧ Ft κ cT I I1 ∧ CS I1 A sb pg n kn ks tm T qa w bd te td)) := by
  refine ct_of (by decide) (Nat.le_of_ble_eq_true rfl) ?_
  intro z hz hr hrc hrs
  have hz : Am z cX7_rank RX7 2 6 := hz
  have hr : Rt z yX7_rank (some .int) 0 0 _ := hr
  show V z 2 0 0 0 [(0, .ref (A 9)), (1, .int x)] [] κ I R J
  obtain ⟨k9, o9, ⟨r0, r1, r2, r3, r4, r5, r6⟩, ⟨k10, n10, o10⟩, hsh, hgap, hp, hx, ha, hc, hf, hq⟩ := id hn
  have kp := hp.1
  have op := hp.2.2.2.2.1
  have op2 := hp.2.2.2.2.2
  have kx := hx.1
  have ka := ha.1
  have kc := hc.1
  have kf := hf.1
  have kq := hq.1
  obtain ⟨h0, ⟨h2, h3, h4⟩, ⟨h5, h6⟩, ⟨h8, h8a, h8b, h9, h10⟩, ⟨h11, h12⟩, h13, ⟨h14, h15⟩⟩ := id hs
  refine v_aload_n hz dX7_rank_0 rfl ?_
  refine v_callVi hz lX7_168 (cX7_hasQuestion_ok _ _ _ _ _ _ A sb hn qa hqb h5) (by assumption) rfl rfl (Nat.le_of_ble_eq_true rfl) (by decide) ⟨Nat.zero_le _, Nat.zero_le _⟩ dX7_rank_1 (fun r I9 qh => ?_)
  obtain ⟨rfl, eIqh⟩ := qh
  rw [eIqh]
  with_reducible refine v_if_neB hz 11 dX7_rank_4 (by decide) (fun c4 => ?_) (fun c4 => ?_)
  · refine v_aload_n hz dX7_rank_11 rfl ?_
    refine v_callVv hz lX7_171 (cX7_refreshFindings_ok _ _ _ _ _ _ A sb hn pg n kn ks tm T qa w bd te td hs hv hvT c4) (by assumption) rfl rfl (Nat.le_of_ble_eq_true rfl) (by decide) ⟨Nat.zero_le _, Nat.zero_le _⟩ dX7_rank_12 (fun I2 qr => ?_)
    obtain ⟨hF2, hs2, hfd⟩ := qr
    obtain ⟨h0, ⟨h2, h3, h4⟩, ⟨h5, h6⟩, ⟨h8, h8a, h8b, h9, h10⟩, ⟨h11, h12⟩, h13, ⟨h14, h15⟩⟩ := id hs2
    obtain ⟨_, of, ⟨rf0, kf0, nf0, hfr⟩, ⟨rf1, kf1, nf1, of1⟩, ⟨rf2, kf2, nf2, of2⟩⟩ := id hf
    refine v_iload_n hz dX7_rank_15 rfl ?_
    refine v_aload_n hz dX7_rank_16 rfl ?_
    refine v_getR hz fX7_51 (by assumption) (by assumption) dX7_rank_17 ?_
    refine v_getI hz fX7_184 (by assumption) dX7_rank_20 ?_
    refine v_top hfd.2.1 ?_
    refine v_callSi hz lX7_124 (cX7_isWithin_ok _ _ _ _ _ _ _ _) rfl rfl (Nat.le_of_ble_eq_true rfl) (by decide) ⟨Nat.zero_le _, Nat.zero_le _⟩ dX7_rank_23 (fun r I9 qw => ?_)
    obtain ⟨rfl, eIqw⟩ := qw
    rw [eIqw]
    with_reducible refine v_if_neB hz 33 dX7_rank_26 (by decide) (fun c26 => ?_) (fun c26 => ?_)
    · have hle : (rkF w bd ks T kn).1 ≤ kn := rkk_le _ _ _ _
      obtain ⟨s, rfl, hsk⟩ := kpt_of (by omega) c26
      refine v_aload_n hz dX7_rank_33 rfl ?_
      refine v_getR hz fX7_51 (by assumption) (by assumption) dX7_rank_34 ?_
      refine v_getR hz fX7_187 (by assumption) (by assumption) dX7_rank_37 ?_
      refine v_iload_n hz dX7_rank_40 rfl ?_
      refine v_ialdN hz (by assumption) (by assumption) (by omega) (by decide) dX7_rank_41 ?_
      refine v_top (hfd.2.2.2.2.2.1 s hsk) ?_
      exact v_iret hz hr dX7_rank_42 ⟨by unfold rnkR; rw [if_pos c4, if_pos c26, nI_clamp (by omega)], hF2, hs2⟩
    · refine v_si (v := (-1001)) hz dX7_rank_29 (by decide) ?_
      exact v_iret hz hr dX7_rank_32 ⟨by unfold rnkR; rw [if_pos c4, if_neg c26], hF2, hs2⟩
  · refine v_si (v := (-1003)) hz dX7_rank_7 (by decide) ?_
    exact v_iret hz hr dX7_rank_10 ⟨by unfold rnkR; rw [if_neg c4], Ft.rf, hs⟩
set_option maxHeartbeats 4000000 in
set_option maxRecDepth 100000 in
theorem cX7_tellQuestion_ok (l : Launch) (g : Gz) (κ : Kz) (I : Iz) (R : Rz) (J : Jz) (A sb : Nat → Nat) (hn : LNg κ R A sb) (pg : Nat → Nat) (n kn : Nat) (ks : Nat → Sg) (tm : Nat → Int32) (T : Sg) (qa w bd : Nat) (te td : Int32) (hs : CS I A sb pg n kn ks tm T qa w bd te td) (hv : ∀ i, i < kn → okQ (ks i)) (hvT : 0 < qa → okQ T) (hqa : 0 < qa) (hfd : FD I A kn ks T w bd) (v : Nat) (hv1 : v < 10) : Ct l mX7_tellQuestion 0 0 g [.ref (A 9), .int (nI v)] κ I R J (Si κ R J (fun r I1 => r = quT w bd ks T kn v ∧ I1 = I)) := by
  refine ct_of (by decide) (Nat.le_of_ble_eq_true rfl) ?_
  intro z hz hr hrc hrs
  have hz : Am z cX7_tellQuestion RX7 2 3 := hz
  have hr : Rt z yX7_tellQuestion (some .int) 0 0 _ := hr
  show V z 2 0 0 0 [(0, .ref (A 9)), (1, .int (nI v))] [] κ I R J
  obtain ⟨k9, o9, ⟨r0, r1, r2, r3, r4, r5, r6⟩, ⟨k10, n10, o10⟩, hsh, hgap, hp, hx, ha, hc, hf, hq⟩ := id hn
  have kp := hp.1
  have op := hp.2.2.2.2.1
  have op2 := hp.2.2.2.2.2
  have kx := hx.1
  have ka := ha.1
  have kc := hc.1
  have kf := hf.1
  have kq := hq.1
  obtain ⟨h0, ⟨h2, h3, h4⟩, ⟨h5, h6⟩, ⟨h8, h8a, h8b, h9, h10⟩, ⟨h11, h12⟩, h13, ⟨h14, h15⟩⟩ := id hs
  obtain ⟨GT, cT4, -⟩ := (h6 hqa).2
  refine v_iload_n hz dX7_tellQuestion_0 rfl ?_
  refine v_ic (v := nI 5) hz dX7_tellQuestion_1 (by decide) ?_
  with_reducible refine v_icmp_geN hz 20 (by omega) (by omega) dX7_tellQuestion_2 (by decide) (fun c2 => ?_) (fun c2 => ?_)
  · refine v_aload_n hz dX7_tellQuestion_20 rfl ?_
    refine v_getR hz fX7_51 (by assumption) (by assumption) dX7_tellQuestion_21 ?_
    refine v_iload_n hz dX7_tellQuestion_24 rfl ?_
    refine v_callVi hz lX7_229 (cX2_tell_ok _ _ _ _ _ _ A hf v (cvF w bd ks T kn) ⟨by omega, hv1⟩ hfd.2.2.2.2.2.2) (by assumption) rfl rfl (Nat.le_of_ble_eq_true rfl) (by decide) ⟨Nat.zero_le _, Nat.zero_le _⟩ dX7_tellQuestion_25 (fun r I3 qt => ?_)
    obtain ⟨rfl, eIqt⟩ := qt
    rw [eIqt]
    exact v_iret hz hr dX7_tellQuestion_28 (by
          first
          | (refine ⟨?_, rfl⟩
             unfold quT
             rw [if_neg (by omega), if_neg (by omega), if_neg (by omega), if_neg (by omega), if_neg (by omega)]
             exact segT5 (by omega))
          | (refine ⟨?_, rfl⟩
             obtain ⟨-, b1, b2, b3, b4, -, -⟩ := hfd
             rcases (show v = 5 ∨ v = 6 ∨ v = 7 ∨ v = 8 ∨ v = 9 by omega) with rfl | rfl | rfl | rfl | rfl
             · exact b1
             · exact b2
             · exact b3
             · exact b4
             · rfl))
  · refine v_aload_n hz dX7_tellQuestion_5 rfl ?_
    refine v_getR hz fX7_23 (by assumption) (by assumption) dX7_tellQuestion_6 ?_
    refine v_iload_n hz dX7_tellQuestion_9 rfl ?_
    refine v_aload_n hz dX7_tellQuestion_10 rfl ?_
    refine v_getI hz fX7_55 (by assumption) dX7_tellQuestion_11 ?_
    refine v_top h8 ?_
    refine v_callVi hz lX7_128 (cX5_tell_ok _ _ _ _ _ _ A 460 hq w v T (I (A 460) 5) (by omega) (h6 hqa).1.2.1 (h6 hqa).1.2.2.1 cT4.2.1 rfl) (by assumption) rfl rfl (Nat.le_of_ble_eq_true rfl) (by decide) ⟨Nat.zero_le _, Nat.zero_le _⟩ dX7_tellQuestion_14 (fun r I3 qt => ?_)
    obtain ⟨rfl, eIqt⟩ := qt
    rw [eIqt]
    refine v_goto hz 28 dX7_tellQuestion_17 (by decide) ?_
    exact v_iret hz hr dX7_tellQuestion_28 (by
          first
          | (refine ⟨?_, rfl⟩
             unfold quT
             rw [if_neg (by omega), if_neg (by omega), if_neg (by omega), if_neg (by omega), if_neg (by omega)]
             exact segT5 (by omega))
          | (refine ⟨?_, rfl⟩
             obtain ⟨-, b1, b2, b3, b4, -, -⟩ := hfd
             rcases (show v = 5 ∨ v = 6 ∨ v = 7 ∨ v = 8 ∨ v = 9 by omega) with rfl | rfl | rfl | rfl | rfl
             · exact b1
             · exact b2
             · exact b3
             · exact b4
             · rfl))
set_option maxHeartbeats 4000000 in
set_option maxRecDepth 100000 in
theorem cX7_question_ok (l : Launch) (g : Gz) (κ : Kz) (I : Iz) (R : Rz) (J : Jz) (A sb : Nat → Nat) (hn : LNg κ R A sb) (pg : Nat → Nat) (n kn : Nat) (ks : Nat → Sg) (tm : Nat → Int32) (T : Sg) (qa w bd : Nat) (te td : Int32) (hs : CS I A sb pg n kn ks tm T qa w bd te td) (hv : ∀ i, i < kn → okQ (ks i)) (hvT : 0 < qa → okQ T) (hqb : qa < 2147483648) (x : Int32) : Ct l mX7_question 0 0 g [.ref (A 9), .int x] κ I R J (Si κ R J (fun r I1 => r = qusR kn ks T qa w bd x ∧ Ft κ cT I I1 ∧ CS I1 A sb pg n kn ks tm T qa w bd te td)) := by
  refine ct_of (by decide) (Nat.le_of_ble_eq_true rfl) ?_
  intro z hz hr hrc hrs
  have hz : Am z cX7_question RX7 2 6 := hz
  have hr : Rt z yX7_question (some .int) 0 0 _ := hr
  show V z 2 0 0 0 [(0, .ref (A 9)), (1, .int x)] [] κ I R J
  obtain ⟨k9, o9, ⟨r0, r1, r2, r3, r4, r5, r6⟩, ⟨k10, n10, o10⟩, hsh, hgap, hp, hx, ha, hc, hf, hq⟩ := id hn
  have kp := hp.1
  have op := hp.2.2.2.2.1
  have op2 := hp.2.2.2.2.2
  have kx := hx.1
  have ka := ha.1
  have kc := hc.1
  have kf := hf.1
  have kq := hq.1
  obtain ⟨h0, ⟨h2, h3, h4⟩, ⟨h5, h6⟩, ⟨h8, h8a, h8b, h9, h10⟩, ⟨h11, h12⟩, h13, ⟨h14, h15⟩⟩ := id hs
  refine v_iload_n hz dX7_question_0 rfl ?_
  refine v_bi (v := nI 10) hz dX7_question_1 (by decide) ?_
  refine v_callSi hz lX7_124 (cX7_isWithin_ok _ _ _ _ _ _ _ _) rfl rfl (Nat.le_of_ble_eq_true rfl) (by decide) ⟨Nat.zero_le _, Nat.zero_le _⟩ dX7_question_3 (fun r I9 qw => ?_)
  obtain ⟨rfl, eIqw⟩ := qw
  rw [eIqw]
  with_reducible refine v_if_neB hz 13 dX7_question_6 (by decide) (fun c6 => ?_) (fun c6 => ?_)
  · obtain ⟨v, rfl, hv1⟩ := kpt_of (by omega) c6
    refine v_aload_n hz dX7_question_13 rfl ?_
    refine v_callVi hz lX7_168 (cX7_hasQuestion_ok _ _ _ _ _ _ A sb hn qa hqb h5) (by assumption) rfl rfl (Nat.le_of_ble_eq_true rfl) (by decide) ⟨Nat.zero_le _, Nat.zero_le _⟩ dX7_question_14 (fun r I9 qh => ?_)
    obtain ⟨rfl, eIqh⟩ := qh
    rw [eIqh]
    with_reducible refine v_if_neB hz 24 dX7_question_17 (by decide) (fun c17 => ?_) (fun c17 => ?_)
    · refine v_aload_n hz dX7_question_24 rfl ?_
      refine v_callVv hz lX7_171 (cX7_refreshFindings_ok _ _ _ _ _ _ A sb hn pg n kn ks tm T qa w bd te td hs hv hvT c17) (by assumption) rfl rfl (Nat.le_of_ble_eq_true rfl) (by decide) ⟨Nat.zero_le _, Nat.zero_le _⟩ dX7_question_25 (fun I2 qr => ?_)
      obtain ⟨hF2, hs2, hfd⟩ := qr
      obtain ⟨h0, ⟨h2, h3, h4⟩, ⟨h5, h6⟩, ⟨h8, h8a, h8b, h9, h10⟩, ⟨h11, h12⟩, h13, ⟨h14, h15⟩⟩ := id hs2
      obtain ⟨_, of, ⟨rf0, kf0, nf0, hfr⟩, ⟨rf1, kf1, nf1, of1⟩, ⟨rf2, kf2, nf2, of2⟩⟩ := id hf
      refine v_aload_n hz dX7_question_28 rfl ?_
      refine v_iload_n hz dX7_question_29 rfl ?_
      refine v_callVi hz lX7_191 (cX7_tellQuestion_ok _ _ _ _ _ _ A sb hn pg n kn ks tm T qa w bd te td hs2 hv hvT c17 hfd v hv1) (by assumption) rfl rfl (Nat.le_of_ble_eq_true rfl) (by decide) ⟨Nat.zero_le _, Nat.zero_le _⟩ dX7_question_30 (fun r I3 qt => ?_)
      obtain ⟨rfl, eIqt⟩ := qt
      rw [eIqt]
      exact v_iret hz hr dX7_question_33 ⟨by unfold qusR; rw [if_pos c6, if_pos c17, nI_clamp (by omega)], hF2, hs2⟩
    · refine v_si (v := (-1003)) hz dX7_question_20 (by decide) ?_
      exact v_iret hz hr dX7_question_23 ⟨by unfold qusR; rw [if_pos c6, if_neg c17], Ft.rf, hs⟩
  · refine v_si (v := (-1002)) hz dX7_question_9 (by decide) ?_
    exact v_iret hz hr dX7_question_12 ⟨by unfold qusR; rw [if_neg c6], Ft.rf, hs⟩
set_option maxHeartbeats 4000000 in
set_option maxRecDepth 100000 in
theorem cX7_covered_ok (l : Launch) (g : Gz) (κ : Kz) (I : Iz) (R : Rz) (J : Jz) (A sb : Nat → Nat) (hn : LNg κ R A sb) (pg : Nat → Nat) (n kn : Nat) (ks : Nat → Sg) (tm : Nat → Int32) (T : Sg) (qa w bd : Nat) (te td : Int32) (hs : CS I A sb pg n kn ks tm T qa w bd te td) (hv : ∀ i, i < kn → okQ (ks i)) (hvT : 0 < qa → okQ T) (hqb : qa < 2147483648) (x : Int32) : Ct l mX7_covered 0 0 g [.ref (A 9), .int x] κ I R J (Si κ R J (fun r I1 => r = cvdR kn ks T qa w bd x ∧ Ft κ cT I I1 ∧ CS I1 A sb pg n kn ks tm T qa w bd te td)) := by
  refine ct_of (by decide) (Nat.le_of_ble_eq_true rfl) ?_
  intro z hz hr hrc hrs
  have hz : Am z cX7_covered RX7 2 6 := hz
  have hr : Rt z yX7_covered (some .int) 0 0 _ := hr
  show V z 2 0 0 0 [(0, .ref (A 9)), (1, .int x)] [] κ I R J
  obtain ⟨k9, o9, ⟨r0, r1, r2, r3, r4, r5, r6⟩, ⟨k10, n10, o10⟩, hsh, hgap, hp, hx, ha, hc, hf, hq⟩ := id hn
  have kp := hp.1
  have op := hp.2.2.2.2.1
  have op2 := hp.2.2.2.2.2
  have kx := hx.1
  have ka := ha.1
  have kc := hc.1
  have kf := hf.1
  have kq := hq.1
  obtain ⟨h0, ⟨h2, h3, h4⟩, ⟨h5, h6⟩, ⟨h8, h8a, h8b, h9, h10⟩, ⟨h11, h12⟩, h13, ⟨h14, h15⟩⟩ := id hs
  refine v_aload_n hz dX7_covered_0 rfl ?_
  refine v_callVi hz lX7_168 (cX7_hasQuestion_ok _ _ _ _ _ _ A sb hn qa hqb h5) (by assumption) rfl rfl (Nat.le_of_ble_eq_true rfl) (by decide) ⟨Nat.zero_le _, Nat.zero_le _⟩ dX7_covered_1 (fun r I9 qh => ?_)
  obtain ⟨rfl, eIqh⟩ := qh
  rw [eIqh]
  with_reducible refine v_if_neB hz 11 dX7_covered_4 (by decide) (fun c4 => ?_) (fun c4 => ?_)
  · refine v_iload_n hz dX7_covered_11 rfl ?_
    refine v_aload_n hz dX7_covered_12 rfl ?_
    refine v_getR hz fX7_23 (by assumption) (by assumption) dX7_covered_13 ?_
    refine v_getI hz fX7_121 (by assumption) dX7_covered_16 ?_
    refine v_top (h6 c4).1.2.1 ?_
    refine v_callSi hz lX7_124 (cX7_isWithin_ok _ _ _ _ _ _ _ _) rfl rfl (Nat.le_of_ble_eq_true rfl) (by decide) ⟨Nat.zero_le _, Nat.zero_le _⟩ dX7_covered_19 (fun r I9 qw => ?_)
    obtain ⟨rfl, eIqw⟩ := qw
    rw [eIqw]
    with_reducible refine v_if_neB hz 29 dX7_covered_22 (by decide) (fun c22 => ?_) (fun c22 => ?_)
    · have oT := (hvT c4).1.2.1
      obtain ⟨s, rfl, hsk⟩ := kpt_of (by omega) c22
      refine v_aload_n hz dX7_covered_29 rfl ?_
      refine v_callVv hz lX7_171 (cX7_refreshFindings_ok _ _ _ _ _ _ A sb hn pg n kn ks tm T qa w bd te td hs hv hvT c4) (by assumption) rfl rfl (Nat.le_of_ble_eq_true rfl) (by decide) ⟨Nat.zero_le _, Nat.zero_le _⟩ dX7_covered_30 (fun I2 qr => ?_)
      obtain ⟨hF2, hs2, hfd⟩ := qr
      obtain ⟨h0, ⟨h2, h3, h4⟩, ⟨h5, h6⟩, ⟨h8, h8a, h8b, h9, h10⟩, ⟨h11, h12⟩, h13, ⟨h14, h15⟩⟩ := id hs2
      obtain ⟨_, of, ⟨rf0, kf0, nf0, hfr⟩, ⟨rf1, kf1, nf1, of1⟩, ⟨rf2, kf2, nf2, of2⟩⟩ := id hf
      refine v_aload_n hz dX7_covered_33 rfl ?_
      refine v_getR hz fX7_51 (by assumption) (by assumption) dX7_covered_34 ?_
      refine v_getR hz fX7_194 (by assumption) (by assumption) dX7_covered_37 ?_
      refine v_iload_n hz dX7_covered_40 rfl ?_
      refine v_zaldN hz (by assumption) (by assumption) (by omega) (by decide) dX7_covered_41 ?_
      refine v_top (hfd.2.2.2.2.2.2 s (by omega)) ?_
      with_reducible refine v_if_eqB hz 49 dX7_covered_42 (by decide) (fun c42 => ?_) (fun c42 => ?_)
      · refine v_ic (v := nI 0) hz dX7_covered_49 (by decide) ?_
        exact v_iret hz hr dX7_covered_50 (by
              refine ⟨?_, hF2, hs2⟩
              unfold cvdR
              rw [if_pos c4, if_pos c22, nI_clamp (by omega)]
              first
              | exact (bz_t c42).symm
              | exact (bz_f c42).symm)
      · refine v_ic (v := nI 1) hz dX7_covered_45 (by decide) ?_
        refine v_goto hz 50 dX7_covered_46 (by decide) ?_
        exact v_iret hz hr dX7_covered_50 (by
              refine ⟨?_, hF2, hs2⟩
              unfold cvdR
              rw [if_pos c4, if_pos c22, nI_clamp (by omega)]
              first
              | exact (bz_t c42).symm
              | exact (bz_f c42).symm)
    · refine v_si (v := (-1001)) hz dX7_covered_25 (by decide) ?_
      exact v_iret hz hr dX7_covered_28 ⟨by unfold cvdR; rw [if_pos c4, if_neg c22], Ft.rf, hs⟩
  · refine v_si (v := (-1003)) hz dX7_covered_7 (by decide) ?_
    exact v_iret hz hr dX7_covered_10 ⟨by unfold cvdR; rw [if_neg c4], Ft.rf, hs⟩
