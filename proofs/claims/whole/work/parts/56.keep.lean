/-! ===== the class: keep, ask, drop ===== -/
section
variable {z : Zz} {cc : ByteArray} {own : String} {nL d k n pc : Nat} {lv : List (Nat × Value)} {st : List Value} {κ : Kz} {I : Iz} {R : Rz} {J : Jz}
/-- a reference into an array of them -/
theorem v_aast (hz : Am z cc own nL d) {a v ci t0 : Nat} {r : vw_C} (hKa : κ.1 a = t0 + 9) (ht : (tyz (zg z))[t0]? = some ((zg z).2.1 (t0 + 9), .object r.1)) (hKv : κ.1 v = ci) (hc : vwCl[ci]? = some r) (hci : ci < 9) (h11 : 11 ≤ t0 + 9 ∧ t0 + 9 < 15) {i : Int32} (hin : vp_in i (κ.2.1 a)) (dd : decode cc pc = .ok (.aastore, 1))
    (h : V z nL k n (pc + 1) lv st κ I (u2 R a i.toNatClampNeg (some v)) J) : V z nL k n pc lv (.ref v :: .int i :: .ref a :: st) κ I R J := by
  obtain ⟨⟨hexec, hb, -, hown, hts⟩, ⟨hKK, hNN, -⟩, -, -, -⟩ := hz
  intro ls H locs hl hM hS
  have hlo : (zg z).2.2 ≤ a := (hM a).1 (by rw [hKa]; omega)
  have hcell := (hM a).2.2.2 (by rw [hKa]; exact h11)
  rw [hKa] at hcell
  obtain ⟨cellV, g1, g2, g3, -⟩ := (hM v).2.1 (by rw [hKv]; exact hci)
  rw [hKv] at g2
  have hlt : i.toNatClampNeg < κ.2.1 a := Nat.not_le.mp fun q => hin (Or.inr q)
  have h0 : ¬ i < 0 := fun q => hin (Or.inl q)
  have hcls := (hKK.1 ci r hc).2
  obtain ⟨kA, comp, k1, k2, k3, -⟩ := (hKK.2 t0 _ ht).2
  have hcomp : comp = (zg z).1.1 ci := Option.some.inj (k3.symm.trans hcls.1)
  subst hcomp
  obtain ⟨kC, hkC, -⟩ := id hcls.2
  refine W.aast hexec hb hcell (fun q h => by cases h) (fun h => by cases h) k1 k2 rfl hkC ⟨h0, by show _ < (arrV _ _ _).slots.size; rw [arrV_size]; exact hlt⟩ g1 (fun q h => by rw [g3] at h; cases h) (by rw [g2]; exact hkC) (by rw [g2]; exact va_assign hcls) rfl rfl dd fun H1 e z1 oq => ?_
  refine h ls H1 _ hl (hM.one (fun _ _ => rfl) (fun _ q => u2_ne q) (fun _ _ => rfl) oq ⟨fun q => ?_, fun q => ?_, fun _ => ?_⟩) (hS.put z1 oq hlo)
  · rw [hKa] at q; omega
  · rw [hKa] at q; omega
  · rw [hKa, e, vp_cell_q, vp_cell_q, arrV_store]
    congr 2
    funext q
    by_cases hq : q = i.toNatClampNeg
    · subst hq
      simp [updV, u2, va_rf]
    · simp [updV, u2, hq]
theorem v_aastN (hz : Am z cc own nL d) {a v ci t0 j N : Nat} {r : vw_C} (hKa : κ.1 a = t0 + 9) (ht : (tyz (zg z))[t0]? = some ((zg z).2.1 (t0 + 9), .object r.1)) (hKv : κ.1 v = ci) (hc : vwCl[ci]? = some r) (hci : ci < 9) (h11 : 11 ≤ t0 + 9 ∧ t0 + 9 < 15) (hN : κ.2.1 a = N) (hj : j < N) (hb : N < 2147483648) (dd : decode cc pc = .ok (.aastore, 1))
    (h : V z nL k n (pc + 1) lv st κ I (u2 R a j (some v)) J) : V z nL k n pc lv (.ref v :: .int (nI j) :: .ref a :: st) κ I R J :=
  v_aast hz hKa ht hKv hc hci h11 (by rw [hN]; exact ii_in hj hb) dd (by rw [nI_clamp (by omega)]; exact h)
end
theorem vup2 {α : Type} {f : Nat → α} {k : Nat} {x y : α} : va_up (va_up f k x) k y = va_up f k y := by
  funext i
  by_cases e : i = k
  · rw [e, vup_s, vup_s]
  · rw [vup_n e, vup_n e, vup_n e]
theorem hlm_up (cd : Nat × Nat → Nat) (ks : Nat → Sg) (kn : Nat) (S : Sg) (c : Nat) : hlm cd (va_up ks kn S) (kn + 1) c = hlm cd ks kn c + (if 0 < gct cd S c then 1 else 0) := by
  show sm _ kn + (if 0 < gct cd (va_up ks kn S kn) c then 1 else 0) = _
  rw [vup_s]
  congr 1
  exact sm_congr (fun i hi => by rw [vup_n (by omega)])
theorem sm_dlt (f : Nat → Nat) (s : Nat) : ∀ d, sm (fun i => if i < s then f i else f (i + 1)) (s + d) + f s = sm f (s + d + 1)
  | 0 => by
    show sm _ s + f s = sm f s + f s
    congr 1
    exact sm_congr (fun i hi => if_pos hi)
  | d + 1 => by
    show (sm _ (s + d) + (if s + d < s then f (s + d) else f (s + d + 1))) + f s = sm f (s + d + 1) + f (s + d + 1)
    rw [if_neg (by omega), ← sm_dlt f s d]
    omega
theorem hlm_dlt (cd : Nat × Nat → Nat) (ks : Nat → Sg) {kn s : Nat} (c : Nat) (h : s < kn) : hlm cd (dlt ks s) (kn - 1) c + (if 0 < gct cd (ks s) c then 1 else 0) = hlm cd ks kn c := by
  have q := sm_dlt (fun i => if 0 < gct cd (ks i) c then 1 else 0) s (kn - 1 - s)
  rw [show s + (kn - 1 - s) + 1 = kn by omega, show s + (kn - 1 - s) = kn - 1 by omega] at q
  refine Eq.trans ?_ q
  show sm _ _ + _ = _
  congr 1
  exact sm_congr (fun i _ => by
    unfold dlt
    by_cases e : i < s
    · rw [if_pos e, if_pos e]
    · rw [if_neg e, if_neg e])
theorem ro_ne {κ : Kz} {A : Nat → Nat} {a c : Nat} (k10 : κ.1 (A 10) = 12) (hk : κ.1 a = c) (hc : c ≠ 12) : a ≠ A 10 := fun e => hc (by rw [← hk, e, k10])
theorem LSg.ro {κ : Kz} {R R1 : Rz} {A : Nat → Nat} (k10 : κ.1 (A 10) = 12) (hR : ∀ a, a ≠ A 10 → R1 a = R a) {b : Nat} (h : LSg κ R A b) : LSg κ R1 A b := ⟨h.1, by rw [hR _ (ro_ne k10 h.1 (by decide))]; exact h.2.1, h.2.2⟩
theorem LPg.ro {κ : Kz} {R R1 : Rz} {A : Nat → Nat} (k10 : κ.1 (A 10) = 12) (hR : ∀ a, a ≠ A 10 → R1 a = R a) (h : LPg κ R A) : LPg κ R1 A := ⟨h.1, by rw [hR _ (ro_ne k10 h.1 (by decide))]; exact h.2.1, h.2.2⟩
theorem LIg.ro {κ : Kz} {R R1 : Rz} {A : Nat → Nat} (k10 : κ.1 (A 10) = 12) (hR : ∀ a, a ≠ A 10 → R1 a = R a) (h : LIg κ R A) : LIg κ R1 A := ⟨h.1, h.2.1, by rw [hR _ (ro_ne k10 h.1 (by decide))]; exact h.2.2.1, h.2.2.2⟩
theorem LCg.ro {κ : Kz} {R R1 : Rz} {A : Nat → Nat} (k10 : κ.1 (A 10) = 12) (hR : ∀ a, a ≠ A 10 → R1 a = R a) {b : Nat} (h : LCg κ R A b) : LCg κ R1 A b := by
  unfold LCg
  rw [hR _ (ro_ne k10 h.1 (by decide))]
  exact h
theorem LGg.ro {κ : Kz} {R R1 : Rz} {A : Nat → Nat} (k10 : κ.1 (A 10) = 12) (hR : ∀ a, a ≠ A 10 → R1 a = R a) {b : Nat} (h : LGg κ R A b) : LGg κ R1 A b := by
  obtain ⟨a1, a2, ⟨a3, a4, a5⟩, a6, a7⟩ := h
  unfold LGg
  rw [hR _ (ro_ne k10 a1 (by decide)), hR _ (ro_ne k10 a4 (by decide))]
  exact ⟨a1, a2, ⟨a3, a4, a5⟩, a6, fun i hi => ⟨(a7 i hi).1, (a7 i hi).2.ro k10 hR⟩⟩
theorem LFg.ro {κ : Kz} {R R1 : Rz} {A : Nat → Nat} (k10 : κ.1 (A 10) = 12) (hR : ∀ a, a ≠ A 10 → R1 a = R a) (h : LFg κ R A) : LFg κ R1 A := by
  obtain ⟨a1, a2, ⟨a3, a4, a5, a6⟩, a7⟩ := h
  unfold LFg
  rw [hR _ (ro_ne k10 a1 (by decide)), hR _ (ro_ne k10 a4 (by decide))]
  exact ⟨a1, a2, ⟨a3, a4, a5, fun i hi => ⟨(a6 i hi).1, (a6 i hi).2.ro k10 hR⟩⟩, a7⟩
theorem LAg.ro {κ : Kz} {R R1 : Rz} {A : Nat → Nat} (k10 : κ.1 (A 10) = 12) (hR : ∀ a, a ≠ A 10 → R1 a = R a) (h : LAg κ R A) : LAg κ R1 A := by
  have e1 := hR _ (ro_ne k10 h.1 (by decide))
  have e2 := hR _ (ro_ne k10 h.2.1.2.1 (by decide))
  have e3 := hR _ (ro_ne k10 h.2.2.1.2.1 (by decide))
  unfold LAg
  rw [e1, e2, e3]
  exact h
theorem LM.ro {κ : Kz} {R R1 : Rz} {A : Nat → Nat} (k10 : κ.1 (A 10) = 12) (hR : ∀ a, a ≠ A 10 → R1 a = R a) (h : LM κ R A) : LM κ R1 A := ⟨h.1, h.2.1, fun f t n hf => by rw [hR _ (ro_ne k10 h.1 (by decide))]; exact h.2.2 f t n hf⟩
theorem LNg.perm {κ : Kz} {R R1 : Rz} {A : Nat → Nat} (k10 : κ.1 (A 10) = 12) (hR : ∀ a, a ≠ A 10 → R1 a = R a) {sb pm : Nat → Nat} (h : LNg κ R A sb) (h1 : ∀ i, i < 13 → pm i < 13) (h2 : ∀ i j, i < 13 → j < 13 → i ≠ j → pm i ≠ pm j) (h3 : ∀ i, i < 13 → R1 (A 10) i = R (A 10) (pm i)) : LNg κ R1 A (fun i => sb (pm i)) := by
  obtain ⟨k9, o9, hr, kk, hsh, hgap, hp, hx, ha, hc, hf, hq⟩ := h
  refine ⟨k9, o9, by rw [hR _ (ro_ne k10 k9 (by decide))]; exact hr, kk, fun i hi => ?_, fun i j hi hj e => hgap _ _ (h1 i hi) (h1 j hj) (h2 i j hi hj e), hp.ro k10 hR, hx.ro k10 hR, ha.ro k10 hR, hc.ro k10 hR, hf.ro k10 hR, hq.ro k10 hR⟩
  obtain ⟨q1, q2, q3, q4⟩ := hsh (pm i) (h1 i hi)
  exact ⟨(h3 i hi).trans q1, q2, q3, q4.ro k10 hR⟩
theorem keptG {κ : Kz} {R : Rz} {A sb : Nat → Nat} {I I1 : Iz} {P : Nat → Prop} {kn : Nat} {ks : Nat → Sg} {tm : Nat → Int32} (hn : LNg κ R A sb) (hF : Ft κ P I I1) (hkn : kn ≤ 13) (h : ∀ i, i < kn → cseg I A (sb i) (ks i) ∧ I (A (sb i)) 5 = tm i) (hP : ∀ i t, i < kn → sb i ≤ t → t < sb i + 19 → ¬ P t) : ∀ i, i < kn → cseg I1 A (sb i) (ks i) ∧ I1 (A (sb i)) 5 = tm i := fun i hi => by
  obtain ⟨_, q1, q2, q3⟩ := hn.2.2.2.2.1 i (by omega)
  exact ⟨(h i hi).1.ft q3 hF (fun t h1 h2 => hP i t hi h1 h2), by rw [hF.at q3.2.1 (hP i _ hi (Nat.le_refl _) (by omega))]; exact (h i hi).2⟩
set_option maxHeartbeats 4000000 in
set_option maxRecDepth 100000 in
theorem lp_nos {z : Zz} {κ : Kz} {I : Iz} {R : Rz} {J : Jz} {A sb : Nat → Nat} (hn : LNg κ R A sb) (hz : Am z cX7_numberOfSame RX7 3 2) {kn b : Nat} {ks : Nat → Sg} {S : Sg} (h2 : kn ≤ 12) (h3 : I (A 9) 7 = nI kn) (h4 : ∀ i, i < kn → csg I A (sb i) (ks i)) (hgb : LGg κ R A b) (hS : csg I A b S) (hr : Rt z yX7_numberOfSame (some .int) 0 0 (Si κ R J (fun r I1 => (∃ f, r = nI f ∧ isFs ks kn S f) ∧ I1 = I))) :
    ∀ (m f : Nat), f ≤ kn → kn + 1 ≤ f + m → (∀ i, i < f → ¬ sameS (ks i) S) → V z 3 0 0 2 [(0, .ref (A 9)), (1, .ref (A b)), (2, .int (nI f))] [] κ I R J := by
  obtain ⟨k9, o9, ⟨r0, r1, r2, r3, r4, r5, r6⟩, ⟨k10, n10, o10⟩, hsh, hgap, hp, hx, ha, hc, hf, hq⟩ := id hn
  have kp := hp.1
  have op := hp.2.2.2.2.1
  have op2 := hp.2.2.2.2.2
  have kx := hx.1
  have ka := ha.1
  have kc := hc.1
  have kf := hf.1
  have kq := hq.1
  intro m
  induction m with
  | zero => intro f hf hm9; exact absurd hm9 (by omega)
  | succ m ih =>
  intro f hff hm9 hno
  refine v_iload_n hz dX7_numberOfSame_2 rfl ?_
  refine v_aload_n hz dX7_numberOfSame_3 rfl ?_
  refine v_getI hz fX7_87 (by assumption) dX7_numberOfSame_4 ?_
  refine v_top h3 ?_
  first | with_reducible refine v_icmp_geN hz 31 (by omega) (by omega) dX7_numberOfSame_7 (by decide) (fun c7 => ?_) (fun c7 => ?_) | refine v_icmp_ge hz 31 dX7_numberOfSame_7 (by decide) (fun c7 => ?_) (fun c7 => ?_)
  · refine v_aload_n hz dX7_numberOfSame_31 rfl ?_
    refine v_getI hz fX7_87 (by assumption) dX7_numberOfSame_32 ?_
    refine v_top h3 ?_
    exact v_iret hz hr dX7_numberOfSame_35 ⟨⟨kn, rfl, Nat.le_refl _, fun i hi => hno i (by omega), fun q => absurd q (by omega)⟩, rfl⟩
  · refine v_aload_n hz dX7_numberOfSame_10 rfl ?_
    refine v_getR hz fX7_18 (by assumption) (by assumption) dX7_numberOfSame_11 ?_
    refine v_iload_n hz dX7_numberOfSame_14 rfl ?_
    refine v_aaldN hz (by omega) (by assumption) (by omega) (by decide) (hsh f (by omega)).1 dX7_numberOfSame_15 ?_
    refine v_aload_n hz dX7_numberOfSame_16 rfl ?_
    refine v_callVi hz lX7_225 (cX5_isSameAs_ok _ _ _ _ _ _ A (sb f) b (hsh f (by omega)).2.2.2 hgb (ks f) S (h4 f (by omega)) hS) (hsh f (by omega)).2.2.2.1 rfl rfl (Nat.le_of_ble_eq_true rfl) (by decide) ⟨Nat.zero_le _, Nat.zero_le _⟩ dX7_numberOfSame_17 (fun r I1 h17 => ?_)
    obtain ⟨rfl, eI⟩ := h17
    rw [eI]
    unfold sameI
    with_reducible refine v_if_eqB hz 25 dX7_numberOfSame_20 (by decide) (fun c20 => ?_) (fun c20 => ?_)
    · first | refine v_iincN hz 1 dX7_numberOfSame_25 (by decide) rfl (by decide) rfl ?_ | refine v_iinc hz dX7_numberOfSame_25 rfl (by decide) rfl ?_
      refine v_goto hz 2 dX7_numberOfSame_28 (by decide) ?_
      exact v_sub (ih (f + 1) (by omega) (by omega) (fun i hi => by
        by_cases e : i = f
        · rw [e]; exact c20
        · exact hno i (by omega))) ⟨rfl, rfl, rfl, trivial⟩
    · refine v_iload_n hz dX7_numberOfSame_23 rfl ?_
      exact v_iret hz hr dX7_numberOfSame_24 ⟨⟨f, rfl, hff, hno, fun _ => c20⟩, rfl⟩
set_option maxHeartbeats 4000000 in
set_option maxRecDepth 100000 in
theorem cX7_numberOfSame_ok (l : Launch) (g : Gz) (κ : Kz) (I : Iz) (R : Rz) (J : Jz) (A sb : Nat → Nat) (hn : LNg κ R A sb) (kn : Nat) (ks : Nat → Sg) (b : Nat) (S : Sg) (h2 : kn ≤ 12) (h3 : I (A 9) 7 = nI kn) (h4 : ∀ i, i < kn → csg I A (sb i) (ks i)) (hgb : LGg κ R A b) (hS : csg I A b S) : Ct l mX7_numberOfSame 0 0 g [.ref (A 9), .ref (A b)] κ I R J (Si κ R J (fun r I1 => (∃ f, r = nI f ∧ isFs ks kn S f) ∧ I1 = I)) := by
  refine ct_of (by decide) (Nat.le_of_ble_eq_true rfl) ?_
  intro z hz hr hrc hrs
  have hz : Am z cX7_numberOfSame RX7 3 2 := hz
  have hr : Rt z yX7_numberOfSame (some .int) 0 0 _ := hr
  show V z 3 0 0 0 [(0, .ref (A 9)), (1, .ref (A b))] [] κ I R J
  obtain ⟨k9, o9, ⟨r0, r1, r2, r3, r4, r5, r6⟩, ⟨k10, n10, o10⟩, hsh, hgap, hp, hx, ha, hc, hf, hq⟩ := id hn
  have kp := hp.1
  have op := hp.2.2.2.2.1
  have op2 := hp.2.2.2.2.2
  have kx := hx.1
  have ka := ha.1
  have kc := hc.1
  have kf := hf.1
  have kq := hq.1
  refine v_ic (v := nI 0) hz dX7_numberOfSame_0 (by decide) ?_
  refine v_istore_n hz dX7_numberOfSame_1 (by decide) rfl ?_
  exact v_sub (lp_nos hn hz h2 h3 h4 hgb hS hr (kn + 1) 0 (by omega) (by omega) (fun i hi => absurd hi (Nat.not_lt_zero i))) ⟨rfl, rfl, rfl, trivial⟩
set_option maxHeartbeats 4000000 in
set_option maxRecDepth 100000 in
theorem kp_tail {z : Zz} {κ : Kz} {I : Iz} {R : Rz} {J : Jz} {A sb : Nat → Nat} (hn : LNg κ R A sb) (hz : Am z cX7_keep RX7 3 5) {pg : Nat → Nat} {n kn : Nat} {ks : Nat → Sg} {tm : Nat → Int32} {T : Sg} {qa w bd : Nat} {te td : Int32} (hs : CS I A sb pg n kn ks tm T qa w bd te td) {f : Nat} (hfk : f < kn) {P : Postz} (hr : Rt z yX7_keep (some .int) 0 0 P) (hP : ∀ I1, Ft κ cT I I1 → CS I1 A sb pg 0 kn ks (va_up tm f (tm f + nI 1)) T qa w bd (te + nI 1) td → P (some (.int (nI f))) κ I1 R J) :
    V z 3 0 0 82 [(0, .ref (A 9)), (2, .int (nI f))] [] κ I R J := by
  obtain ⟨k9, o9, ⟨r0, r1, r2, r3, r4, r5, r6⟩, ⟨k10, n10, o10⟩, hsh, hgap, hp, hx, ha, hc, hf, hq⟩ := id hn
  have kp := hp.1
  have op := hp.2.2.2.2.1
  have op2 := hp.2.2.2.2.2
  have kx := hx.1
  have ka := ha.1
  have kc := hc.1
  have kf := hf.1
  have kq := hq.1
  obtain ⟨h0, ⟨h2, h3, h4⟩, ⟨h5, h6⟩, ⟨h8, h8a, h8b, h9, h10⟩, ⟨h11, h12⟩, h13, ⟨h14, h15⟩⟩ := id hs
  obtain ⟨rb, hb1, hb2, gb⟩ := hsh f (by omega)
  have kb := gb.1
  have ob := gb.2.1
  have nb1 : A (sb f) ≠ A 1 := tag_ne ob op (by omega)
  have nb9 : A (sb f) ≠ A 9 := tag_ne ob o9 (by omega)
  have n91 : A 9 ≠ A 1 := tag_ne o9 op (by decide)
  refine v_aload_n hz dX7_keep_82 rfl ?_
  refine v_getR hz fX7_18 (by assumption) (by assumption) dX7_keep_83 ?_
  refine v_iload_n hz dX7_keep_86 rfl ?_
  refine v_aaldN hz (by omega) (by assumption) (by omega) (by decide) rb dX7_keep_87 ?_
  refine v_dup hz dX7_keep_88 rfl ?_
  refine v_getI hz fX7_102 (by assumption) dX7_keep_89 ?_
  refine v_top (h4 f hfk).2 ?_
  refine v_ic (v := nI 1) hz dX7_keep_92 (by decide) ?_
  first | with_reducible refine v_iaddN hz dX7_keep_93 ?_ | refine v_iadd hz dX7_keep_93 ?_
  refine v_putI hz fX7_102 (by assumption) dX7_keep_94 ?_
  refine v_gen (fun I2 q2 => ?_)
  refine v_aload_n hz dX7_keep_97 rfl ?_
  refine v_dup hz dX7_keep_98 rfl ?_
  refine v_getI hz fX7_105 (by assumption) dX7_keep_99 ?_
  refine v_top (y := te) (by rw [q2, u2_ne nb9.symm]; exact h11) ?_
  refine v_ic (v := nI 1) hz dX7_keep_102 (by decide) ?_
  first | with_reducible refine v_iaddN hz dX7_keep_103 ?_ | refine v_iadd hz dX7_keep_103 ?_
  refine v_putI hz fX7_105 (by assumption) dX7_keep_104 ?_
  refine v_gen (fun I3 q3 => ?_)
  refine v_aload_n hz dX7_keep_107 rfl ?_
  refine v_getR hz fX7_12 (by assumption) (by assumption) dX7_keep_108 ?_
  refine v_callVv hz lX7_77 (cX4_clear_ok _ _ _ _ _ _ A hp) (by assumption) rfl rfl (Nat.le_of_ble_eq_true rfl) (by decide) ⟨Nat.zero_le _, Nat.zero_le _⟩ dX7_keep_111 (fun I4 q111 => ?_)
  refine v_iload_n hz dX7_keep_114 rfl ?_
  refine v_iret0 hz hr dX7_keep_115 (hP I4 ?_ ?_)
  · rw [q111, q3, q2]; exact ((Ft.rf.put ob (Or.inr (by omega))).put o9 (Or.inl (by decide))).put op (Or.inl (by decide))
  · have hF : Ft κ (fun t => t = 1 ∨ t = 9 ∨ t = sb f) I I4 := by rw [q111, q3, q2]; exact ((Ft.rf.put ob (Or.inr (Or.inr rfl))).put o9 (Or.inr (Or.inl rfl))).put op (Or.inl rfl)
    have k9f : ∀ x, x ≠ 10 → I4 (A 9) x = I (A 9) x := fun x hx => by rw [q111, u2_ne n91, q3, u2_at hx, q2, u2_ne nb9.symm]
    exact ⟨⟨by decide, by rw [q111, u2_eq], fun j hj => absurd hj (Nat.not_lt_zero j)⟩, ⟨h2, (k9f 7 (by decide)).trans h3, fun i hi => by
          have hgf := hgap i f (by omega) (by omega)
          by_cases e : i = f
          · rw [e, vup_s]
            exact ⟨(h4 f (by omega)).1.kp (fun x hx => by rw [q111, u2_ne nb1, q3, u2_ne nb9, q2, u2_at hx]) (fun t a b => hF.at (gb.tag (by omega) b) (by omega)), by rw [q111, u2_ne nb1, q3, u2_ne nb9, q2, u2_eq]⟩
          · rw [vup_n e]
            have hgf := hgf e
            have qi := hsh i (by omega)
            exact ⟨(h4 i hi).1.ft qi.2.2.2 hF (fun t a b => by have := qi.2; omega), by rw [hF.at qi.2.2.2.2.1 (by have := qi.2; omega)]; exact (h4 i hi).2⟩⟩, ⟨(k9f 12 (by decide)).trans h5, fun q => (h6 q).ft hq hF (fun t a b => by omega)⟩, ⟨(k9f 8 (by decide)).trans h8, h8a, h8b, (k9f 9 (by decide)).trans h9, h10⟩, ⟨by rw [q111, u2_ne n91, q3, u2_eq], (k9f 11 (by decide)).trans h12⟩, h13.ft hx hF (by omega) (by omega), ⟨(by rw [show I4 (A 9) 13 = I (A 9) 13 from k9f 13 (by decide)]; exact h14), (fun q => (h15 (by rw [← q]; exact (k9f 13 (by decide)).symm)).ft hf hF h2 (fun t ht => by rcases ht with k | k | k | k <;> omega))⟩⟩
set_option maxHeartbeats 4000000 in
set_option maxRecDepth 100000 in
theorem cX7_keep_ok (l : Launch) (g : Gz) (κ : Kz) (I : Iz) (R : Rz) (J : Jz) (A sb : Nat → Nat) (hn : LNg κ R A sb) (pg : Nat → Nat) (n kn : Nat) (ks : Nat → Sg) (tm : Nat → Int32) (T : Sg) (qa w bd : Nat) (te td : Int32) (hs : CS I A sb pg n kn ks tm T qa w bd te td) (hv : ∀ i, i < kn → okQ (ks i)) : Ct l mX7_keep 0 0 g [.ref (A 9)] κ I R J (Si κ R J (fun r I1 => Ft κ cT I I1 ∧ (¬ segB pg n = true → r = -1003 ∧ CS I1 A sb pg n kn ks tm T qa w bd te td) ∧ (segB pg n = true → ∀ f, isFs ks kn (sgOf pg n) f → (f = 12 → r = -1004 ∧ CS I1 A sb pg n kn ks tm T qa w bd te td) ∧ (f < kn → r = nI f ∧ CS I1 A sb pg 0 kn ks (va_up tm f (tm f + nI 1)) T qa w bd (te + nI 1) td) ∧ (f = kn → f < 12 → r = nI f ∧ CS I1 A sb pg 0 (kn + 1) (va_up ks kn (sgOf pg n)) (va_up tm kn (nI (0 + 1))) T qa w bd (te + nI 1) td)))) := by
  refine ct_of (by decide) (Nat.le_of_ble_eq_true rfl) ?_
  intro z hz hr hrc hrs
  have hz : Am z cX7_keep RX7 3 5 := hz
  have hr : Rt z yX7_keep (some .int) 0 0 _ := hr
  show V z 3 0 0 0 [(0, .ref (A 9))] [] κ I R J
  obtain ⟨k9, o9, ⟨r0, r1, r2, r3, r4, r5, r6⟩, ⟨k10, n10, o10⟩, hsh, hgap, hp, hx, ha, hc, hf, hq⟩ := id hn
  have kp := hp.1
  have op := hp.2.2.2.2.1
  have op2 := hp.2.2.2.2.2
  have kx := hx.1
  have ka := ha.1
  have kc := hc.1
  have kf := hf.1
  have kq := hq.1
  obtain ⟨h0, ⟨h2, h3, h4⟩, ⟨h5, h6⟩, ⟨h8, h8a, h8b, h9, h10⟩, ⟨h11, h12⟩, h13, ⟨h14, h15⟩⟩ := id hs
  refine v_aload_n hz dX7_keep_0 rfl ?_
  refine v_getR hz fX7_12 (by assumption) (by assumption) dX7_keep_1 ?_
  refine v_callVi hz lX7_84 (cX4_isSegment_ok _ _ _ _ _ _ A hp n pg h0) (by assumption) rfl rfl (Nat.le_of_ble_eq_true rfl) (by decide) ⟨Nat.zero_le _, Nat.zero_le _⟩ dX7_keep_4 (fun r I2 q4 => ?_)
  obtain ⟨rfl, g1, g2⟩ := q4
  have hF1 : Ft κ (fun t => t = 1) I I2 := Ft.pg op g1
  have hs2 : CS I2 A sb pg n kn ks tm T qa w bd te td := ⟨⟨h0.1, g2.trans h0.2.1, fun j hj => by rw [hF1.at op2 (by omega)]; exact h0.2.2 j hj⟩, ⟨h2, by rw [hF1.at o9 (by omega)]; exact h3, keptF hn hF1 (by omega) h4 (fun t a b => by omega)⟩, ⟨by rw [hF1.at o9 (by omega)]; exact h5, fun q => (h6 q).ft hq hF1 (fun t a b => by omega)⟩, ⟨by rw [hF1.at o9 (by omega)]; exact h8, h8a, h8b, by rw [hF1.at o9 (by omega)]; exact h9, h10⟩, ⟨by rw [hF1.at o9 (by omega)]; exact h11, by rw [hF1.at o9 (by omega)]; exact h12⟩, h13.ft hx hF1 (by omega) (by omega), ⟨(by rw [show I2 (A 9) 13 = I (A 9) 13 from by rw [hF1.at o9 (by omega)]]; exact h14), (fun q => (h15 (by rw [← q]; exact (by rw [hF1.at o9 (by omega)]))).ft hf hF1 h2 (fun t ht => by rcases ht with k | k | k | k <;> omega))⟩⟩
  have hFc1 : Ft κ cT I I2 := hF1.wid (fun t ht => Or.inl (by omega))
  obtain ⟨h0, ⟨h2, h3, h4⟩, ⟨h5, h6⟩, ⟨h8, h8a, h8b, h9, h10⟩, ⟨h11, h12⟩, h13, ⟨h14, h15⟩⟩ := id hs2
  with_reducible refine v_if_neB hz 14 dX7_keep_7 (by decide) (fun c7 => ?_) (fun c7 => ?_)
  · refine v_aload_n hz dX7_keep_14 rfl ?_
    refine v_getR hz fX7_18 (by assumption) (by assumption) dX7_keep_15 ?_
    refine v_aload_n hz dX7_keep_18 rfl ?_
    refine v_getI hz fX7_87 (by assumption) dX7_keep_19 ?_
    refine v_top h3 ?_
    refine v_aaldN hz (by omega) (by assumption) (by omega) (by decide) (hsh kn (by omega)).1 dX7_keep_22 ?_
    refine v_astore_n hz dX7_keep_23 (by decide) rfl ?_
    refine v_aload_n hz dX7_keep_24 rfl ?_
    refine v_aload_n hz dX7_keep_25 rfl ?_
    refine v_getR hz fX7_12 (by assumption) (by assumption) dX7_keep_26 ?_
    refine v_callVv hz lX7_90 (cX5_read_ok _ _ _ _ _ _ A (sb kn) n pg (hsh kn (by omega)).2.2.2 hp (by have := (hsh kn (by omega)).2.1; omega) h0 c7) (hsh kn (by omega)).2.2.2.1 rfl rfl (Nat.le_of_ble_eq_true rfl) (by decide) ⟨Nat.zero_le _, Nat.zero_le _⟩ dX7_keep_29 (fun I3 q29 => ?_)
    obtain ⟨s1, s2, s3⟩ := q29
    obtain ⟨rk, hb1, hb2, gk⟩ := hsh kn (by omega)
    have hF3 := s3.ft gk
    have hs3 : CS I3 A sb pg n kn ks tm T qa w bd te td := ⟨h0.ft hp hF3 (by omega) (by omega), ⟨h2, by rw [hF3.at o9 (by omega)]; exact h3, keptG hn hF3 (by omega) h4 (fun i t hi a b => by have := hgap i kn (by omega) (by omega) (by omega); omega)⟩, ⟨by rw [hF3.at o9 (by omega)]; exact h5, fun q => (h6 q).ft hq hF3 (fun t a b => by omega)⟩, ⟨by rw [hF3.at o9 (by omega)]; exact h8, h8a, h8b, by rw [hF3.at o9 (by omega)]; exact h9, h10⟩, ⟨by rw [hF3.at o9 (by omega)]; exact h11, by rw [hF3.at o9 (by omega)]; exact h12⟩, h13.ft hx hF3 (by omega) (by omega), ⟨(by rw [show I3 (A 9) 13 = I2 (A 9) 13 from by rw [hF3.at o9 (by omega)]]; exact h14), (fun q => (h15 (by rw [← q]; exact (by rw [hF3.at o9 (by omega)]))).ft hf hF3 h2 (fun t ht => by rcases ht with k | k | k | k <;> omega))⟩⟩
    have hFc3 : Ft κ cT I I3 := hFc1.tr (hF3.wid (fun t ht => Or.inr (by omega)))
    obtain ⟨h0, ⟨h2, h3, h4⟩, ⟨h5, h6⟩, ⟨h8, h8a, h8b, h9, h10⟩, ⟨h11, h12⟩, h13, ⟨h14, h15⟩⟩ := id hs3
    have oS : okQ (sgOf pg n) := segB_okQ h0.1 c7
    refine v_aload_n hz dX7_keep_32 rfl ?_
    refine v_aload_n hz dX7_keep_33 rfl ?_
    refine v_callVi hz lX7_94 (cX7_numberOfSame_ok _ _ _ _ _ _ A sb hn kn ks (sb kn) (sgOf pg n) h2 h3 (fun i hi => (h4 i hi).1.1) gk s1.1) (by assumption) rfl rfl (Nat.le_of_ble_eq_true rfl) (by decide) ⟨Nat.zero_le _, Nat.zero_le _⟩ dX7_keep_34 (fun r I4 q34 => ?_)
    obtain ⟨⟨f, rfl, hf⟩, eI⟩ := q34
    rw [eI]
    have hfk := hf.1
    refine v_istore_n hz dX7_keep_37 (by decide) rfl ?_
    refine v_iload_n hz dX7_keep_38 rfl ?_
    refine v_aload_n hz dX7_keep_39 rfl ?_
    refine v_getI hz fX7_87 (by assumption) dX7_keep_40 ?_
    refine v_top h3 ?_
    with_reducible refine v_icmp_neN hz 82 (by omega) (by omega) dX7_keep_43 (by decide) (fun c43 => ?_) (fun c43 => ?_)
    · exact v_sub (kp_tail hn hz hs3 (by omega) hr (fun I5 k1 k2 => ⟨rfl, rfl, rfl, _, rfl, hFc3.tr k1, fun q => absurd c7 q, fun _ f' hf' => by
        have e := hf.one hf'
        subst e
        exact ⟨fun e => absurd e (by omega), fun _ => ⟨rfl, k2⟩, fun e => absurd e (by omega)⟩⟩)) ⟨rfl, rfl, trivial⟩
    · refine v_aload_n hz dX7_keep_46 rfl ?_
      refine v_getI hz fX7_87 (by assumption) dX7_keep_47 ?_
      refine v_top h3 ?_
      refine v_bi (v := nI 12) hz dX7_keep_50 (by decide) ?_
      with_reducible refine v_icmp_ltN hz 59 (by omega) (by omega) dX7_keep_52 (by decide) (fun c52 => ?_) (fun c52 => ?_)
      · obtain ⟨Gr, g1, g2⟩ := s1.2
        refine v_aload_n hz dX7_keep_59 rfl ?_
        refine v_getR hz fX7_30 (by assumption) (by assumption) dX7_keep_60 ?_
        refine v_aload_n hz dX7_keep_63 rfl ?_
        refine v_callVv hz lX7_98 (cX3_add_ok _ _ _ _ _ _ A hx (sb kn) (grn (sgOf pg n)) Gr (hlm ccode ks kn) gk hb1 g1 (fun c => Nat.le_trans (hlm_le _ _ _ _) (by omega)) h13) (by assumption) rfl rfl (Nat.le_of_ble_eq_true rfl) (by decide) ⟨Nat.zero_le _, Nat.zero_le _⟩ dX7_keep_64 (fun I4 q64 => ?_)
        obtain ⟨x1, x2⟩ := q64
        have hF4 := x2.ft hx
        refine v_aload_n hz dX7_keep_67 rfl ?_
        refine v_dup hz dX7_keep_68 rfl ?_
        refine v_getI hz fX7_87 (by assumption) dX7_keep_69 ?_
        refine v_top (y := nI kn) (by rw [hF4.at o9 (by omega)]; exact h3) ?_
        refine v_ic (v := nI 1) hz dX7_keep_72 (by decide) ?_
        first | with_reducible refine v_iaddN hz dX7_keep_73 ?_ | refine v_iadd hz dX7_keep_73 ?_
        refine v_putI hz fX7_87 (by assumption) dX7_keep_74 ?_
        refine v_aload_n hz dX7_keep_77 rfl ?_
        refine v_ic (v := nI 1) hz dX7_keep_78 (by decide) ?_
        refine v_putZ hz fX7_62 (by assumption) (by first | exact Or.inl rfl | exact Or.inr rfl | exact bz_01) dX7_keep_79 ?_
        refine v_gen (fun I5 q5 => ?_)
        have hF5 : Ft κ (fun t => t = 9) I4 I5 := by rw [q5]; exact (Ft.rf.p1 o9).p1 o9
        have hF45 : Ft κ (fun t => t = 3 ∨ t = 4 ∨ t = 9) I3 I5 := (hF4.wid (fun t ht => by omega)).tr (hF5.wid (fun t ht => by omega))
        have k9f : ∀ x, x ≠ 7 → x ≠ 13 → I5 (A 9) x = I3 (A 9) x := fun x a b => by rw [q5, u2_at b, u2_at a, hF4.at o9 (by omega)]
        have st5 : I5 (A 9) 13 = nI 1 := by rw [q5, u2_eq]
        have hs5 : CS I5 A sb pg n (kn + 1) (va_up ks kn (sgOf pg n)) (va_up tm kn (nI 0)) T qa w bd te td := ⟨h0.ft hp hF45 (by omega) (by omega), ⟨by omega, by rw [q5, u2_at (by decide), u2_eq], fun i hi => by
            by_cases e : i = kn
            · rw [e, vup_s, vup_s]
              exact ⟨s1.ft gk hF45 (fun t a b => by omega), by rw [hF45.at gk.2.1 (by omega)]; exact s2⟩
            · rw [vup_n e, vup_n e]
              exact keptF hn hF45 (by omega) h4 (fun t a b => by omega) i (by omega)⟩, ⟨(k9f 12 (by decide) (by decide)).trans h5, fun q => (h6 q).ft hq hF45 (fun t a b => by omega)⟩, ⟨(k9f 8 (by decide) (by decide)).trans h8, h8a, h8b, (k9f 9 (by decide) (by decide)).trans h9, h10⟩, ⟨(k9f 10 (by decide) (by decide)).trans h11, (k9f 11 (by decide) (by decide)).trans h12⟩, (x1.ft hx hF5 (by omega) (by omega)).to (fun c => by rw [hlm_up]; unfold oc; rw [g2]), ⟨Or.inr st5, fun q => absurd (st5.symm.trans q) (by decide)⟩⟩
        exact v_sub (kp_tail hn hz hs5 (show f < kn + 1 by omega) hr (fun I6 k1 k2 => ⟨rfl, rfl, rfl, _, rfl, (hFc3.tr ((hF45.wid (fun t ht => Or.inl (by omega))).tr k1)), fun q => absurd c7 q, fun _ f' hf' => by
          have e := hf.one hf'
          subst e
          refine ⟨fun e => absurd e (by omega), fun e => absurd e (by omega), fun e e2 => ⟨rfl, ?_⟩⟩
          rw [e, vup2, vup_s] at k2
          exact k2⟩)) ⟨rfl, rfl, trivial⟩
      · refine v_si (v := (-1004)) hz dX7_keep_55 (by decide) ?_
        exact v_iret hz hr dX7_keep_58 ⟨hFc3, fun q => absurd c7 q, fun _ f' hf' => by
              have e := hf.one hf'
              subst e
              exact ⟨fun _ => ⟨rfl, hs3⟩, fun e => absurd e (by omega), fun e e2 => absurd e2 (by omega)⟩⟩
  · refine v_si (v := (-1003)) hz dX7_keep_10 (by decide) ?_
    exact v_iret hz hr dX7_keep_13 ⟨hFc1, fun _ => ⟨rfl, hs2⟩, fun q => absurd q c7⟩
set_option maxHeartbeats 4000000 in
set_option maxRecDepth 100000 in
theorem cX7_ask_ok (l : Launch) (g : Gz) (κ : Kz) (I : Iz) (R : Rz) (J : Jz) (A sb : Nat → Nat) (hn : LNg κ R A sb) (pg : Nat → Nat) (n kn : Nat) (ks : Nat → Sg) (tm : Nat → Int32) (T : Sg) (qa w bd : Nat) (te td : Int32) (hs : CS I A sb pg n kn ks tm T qa w bd te td) : Ct l mX7_ask 0 0 g [.ref (A 9)] κ I R J (Si κ R J (fun r I1 => Ft κ cT I I1 ∧ (¬ segB pg n = true → r = -1003 ∧ CS I1 A sb pg n kn ks tm T qa w bd te td) ∧ (segB pg n = true → r = nI (sgOf pg n).1 ∧ CS I1 A sb pg 0 kn ks tm (sgOf pg n) (qa + 1) w bd te td))) := by
  refine ct_of (by decide) (Nat.le_of_ble_eq_true rfl) ?_
  intro z hz hr hrc hrs
  have hz : Am z cX7_ask RX7 1 5 := hz
  have hr : Rt z yX7_ask (some .int) 0 0 _ := hr
  show V z 1 0 0 0 [(0, .ref (A 9))] [] κ I R J
  obtain ⟨k9, o9, ⟨r0, r1, r2, r3, r4, r5, r6⟩, ⟨k10, n10, o10⟩, hsh, hgap, hp, hx, ha, hc, hf, hq⟩ := id hn
  have kp := hp.1
  have op := hp.2.2.2.2.1
  have op2 := hp.2.2.2.2.2
  have kx := hx.1
  have ka := ha.1
  have kc := hc.1
  have kf := hf.1
  have kq := hq.1
  obtain ⟨h0, ⟨h2, h3, h4⟩, ⟨h5, h6⟩, ⟨h8, h8a, h8b, h9, h10⟩, ⟨h11, h12⟩, h13, ⟨h14, h15⟩⟩ := id hs
  refine v_aload_n hz dX7_ask_0 rfl ?_
  refine v_getR hz fX7_12 (by assumption) (by assumption) dX7_ask_1 ?_
  refine v_callVi hz lX7_84 (cX4_isSegment_ok _ _ _ _ _ _ A hp n pg h0) (by assumption) rfl rfl (Nat.le_of_ble_eq_true rfl) (by decide) ⟨Nat.zero_le _, Nat.zero_le _⟩ dX7_ask_4 (fun r I2 q4 => ?_)
  obtain ⟨rfl, g1, g2⟩ := q4
  have hF1 : Ft κ (fun t => t = 1) I I2 := Ft.pg op g1
  have hs2 : CS I2 A sb pg n kn ks tm T qa w bd te td := ⟨⟨h0.1, g2.trans h0.2.1, fun j hj => by rw [hF1.at op2 (by omega)]; exact h0.2.2 j hj⟩, ⟨h2, by rw [hF1.at o9 (by omega)]; exact h3, keptF hn hF1 (by omega) h4 (fun t a b => by omega)⟩, ⟨by rw [hF1.at o9 (by omega)]; exact h5, fun q => (h6 q).ft hq hF1 (fun t a b => by omega)⟩, ⟨by rw [hF1.at o9 (by omega)]; exact h8, h8a, h8b, by rw [hF1.at o9 (by omega)]; exact h9, h10⟩, ⟨by rw [hF1.at o9 (by omega)]; exact h11, by rw [hF1.at o9 (by omega)]; exact h12⟩, h13.ft hx hF1 (by omega) (by omega), ⟨(by rw [show I2 (A 9) 13 = I (A 9) 13 from by rw [hF1.at o9 (by omega)]]; exact h14), (fun q => (h15 (by rw [← q]; exact (by rw [hF1.at o9 (by omega)]))).ft hf hF1 h2 (fun t ht => by rcases ht with k | k | k | k <;> omega))⟩⟩
  have hFc1 : Ft κ cT I I2 := hF1.wid (fun t ht => Or.inl (by omega))
  obtain ⟨h0, ⟨h2, h3, h4⟩, ⟨h5, h6⟩, ⟨h8, h8a, h8b, h9, h10⟩, ⟨h11, h12⟩, h13, ⟨h14, h15⟩⟩ := id hs2
  with_reducible refine v_if_neB hz 14 dX7_ask_7 (by decide) (fun c7 => ?_) (fun c7 => ?_)
  · refine v_aload_n hz dX7_ask_14 rfl ?_
    refine v_getR hz fX7_23 (by assumption) (by assumption) dX7_ask_15 ?_
    refine v_aload_n hz dX7_ask_18 rfl ?_
    refine v_getR hz fX7_12 (by assumption) (by assumption) dX7_ask_19 ?_
    refine v_callVv hz lX7_90 (cX5_read_ok _ _ _ _ _ _ A 460 n pg hq hp (by decide) h0 c7) (by assumption) rfl rfl (Nat.le_of_ble_eq_true rfl) (by decide) ⟨Nat.zero_le _, Nat.zero_le _⟩ dX7_ask_22 (fun I3 q22 => ?_)
    obtain ⟨s1, s2, s3⟩ := q22
    have hF3 := s3.ft hq
    refine v_aload_n hz dX7_ask_25 rfl ?_
    refine v_getR hz fX7_12 (by assumption) (by assumption) dX7_ask_26 ?_
    refine v_callVv hz lX7_77 (cX4_clear_ok _ _ _ _ _ _ A hp) (by assumption) rfl rfl (Nat.le_of_ble_eq_true rfl) (by decide) ⟨Nat.zero_le _, Nat.zero_le _⟩ dX7_ask_29 (fun I4 q29 => ?_)
    have n91 : A 9 ≠ A 1 := tag_ne o9 op (by decide)
    refine v_aload_n hz dX7_ask_32 rfl ?_
    refine v_dup hz dX7_ask_33 rfl ?_
    refine v_getI hz fX7_118 (by assumption) dX7_ask_34 ?_
    refine v_top (y := nI qa) (by rw [q29, u2_ne n91, hF3.at o9 (by omega)]; exact h5) ?_
    refine v_ic (v := nI 1) hz dX7_ask_37 (by decide) ?_
    first | with_reducible refine v_iaddN hz dX7_ask_38 ?_ | refine v_iadd hz dX7_ask_38 ?_
    refine v_putI hz fX7_118 (by assumption) dX7_ask_39 ?_
    refine v_aload_n hz dX7_ask_42 rfl ?_
    refine v_ic (v := nI 1) hz dX7_ask_43 (by decide) ?_
    refine v_putZ hz fX7_62 (by assumption) (by first | exact Or.inl rfl | exact Or.inr rfl | exact bz_01) dX7_ask_44 ?_
    refine v_gen (fun I5 q5 => ?_)
    refine v_aload_n hz dX7_ask_47 rfl ?_
    refine v_getR hz fX7_23 (by assumption) (by assumption) dX7_ask_48 ?_
    refine v_getI hz fX7_121 (by assumption) dX7_ask_51 ?_
    refine v_top (y := nI (sgOf pg n).1) (by rw [q5, u2_ne (tag_ne hq.2.1 o9 (by decide)), u2_ne (tag_ne hq.2.1 o9 (by decide)), q29, u2_ne (tag_ne hq.2.1 op (by decide))]; exact s1.1.2.1) ?_
    exact v_iret hz hr dX7_ask_54 (by
          have hF5 : Ft κ (fun t => t = 1 ∨ t = 9) I3 I5 := by rw [q5, q29]; exact ((Ft.rf.put op (Or.inl rfl)).put o9 (Or.inr rfl)).put o9 (Or.inr rfl)
          have hF : Ft κ (fun t => t = 1 ∨ t = 9 ∨ (460 ≤ t ∧ t < 479)) I2 I5 := (hF3.wid (fun t ht => by omega)).tr (hF5.wid (fun t ht => by omega))
          have k9f : ∀ x, x ≠ 12 → x ≠ 13 → I5 (A 9) x = I2 (A 9) x := fun x a b => by rw [q5, u2_at b, u2_at a, q29, u2_ne n91, hF3.at o9 (by omega)]
          have st5 : I5 (A 9) 13 = nI 1 := by rw [q5, u2_eq]
          refine ⟨hFc1.tr (hF.wid (fun t ht => by unfold cT; omega)), fun q => absurd c7 q, fun _ => ⟨rfl, ⟨⟨by decide, by rw [q5, u2_ne n91.symm, u2_ne n91.symm, q29, u2_eq], fun j hj => absurd hj (Nat.not_lt_zero j)⟩, ⟨h2, (k9f 7 (by decide) (by decide)).trans h3, keptF hn hF (by omega) h4 (fun t a b => by omega)⟩, ⟨by rw [q5, u2_at (by decide), u2_eq], fun _ => s1.ft hq hF5 (fun t a b => by omega)⟩, ⟨(k9f 8 (by decide) (by decide)).trans h8, h8a, h8b, (k9f 9 (by decide) (by decide)).trans h9, h10⟩, ⟨(k9f 10 (by decide) (by decide)).trans h11, (k9f 11 (by decide) (by decide)).trans h12⟩, h13.ft hx hF (by omega) (by omega), ⟨Or.inr st5, fun q => absurd (st5.symm.trans q) (by decide)⟩⟩⟩⟩)
  · refine v_si (v := (-1003)) hz dX7_ask_10 (by decide) ?_
    exact v_iret hz hr dX7_ask_13 ⟨hFc1, fun _ => ⟨rfl, hs2⟩, fun q => absurd q c7⟩
set_option maxHeartbeats 4000000 in
set_option maxRecDepth 100000 in
theorem lp_drop7 {z : Zz} {κ : Kz} {I : Iz} {R : Rz} {J : Jz} {A sb : Nat → Nat} (hn : LNg κ R A sb) (hz : Am z cX7_drop RX7 4 2) {kn s : Nat} {x0 : Int32} (hkn : kn ≤ 12) (hsk : s < kn) (h3 : I (A 9) 7 = nI (kn - 1)) (K : ∀ R1, (∀ a, a ≠ A 10 → R1 a = R a) → (∀ j, R1 (A 10) j = dlk (R (A 10)) s (kn - 1) j) → V z 4 0 0 67 [(0, .ref (A 9)), (2, .ref (A (sb s)))] [] κ I R1 J) :
    ∀ (m i : Nat) (R1 : Rz), s ≤ i → i ≤ kn - 1 → kn ≤ i + m → (∀ a, a ≠ A 10 → R1 a = R a) → (∀ j, R1 (A 10) j = dlk (R (A 10)) s i j) → V z 4 0 0 39 [(0, .ref (A 9)), (1, .int x0), (2, .ref (A (sb s))), (3, .int (nI i))] [] κ I R1 J := by
  obtain ⟨k9, o9, ⟨r0, r1, r2, r3, r4, r5, r6⟩, ⟨k10, n10, o10⟩, hsh, hgap, hp, hx, ha, hc, hf, hq⟩ := id hn
  have kp := hp.1
  have op := hp.2.2.2.2.1
  have op2 := hp.2.2.2.2.2
  have kx := hx.1
  have ka := ha.1
  have kc := hc.1
  have kf := hf.1
  have kq := hq.1
  intro m
  induction m with
  | zero => intro i R1 h1 h2 hm9; exact absurd hm9 (by omega)
  | succ m ih =>
  intro i R1 h1 h2 hm9 hfr hRk
  have rr1 : R1 (A 9) 1 = some (A 10) := by rw [hfr _ (ro_ne k10 k9 (by decide))]; exact r1
  refine v_iload_n hz dX7_drop_39 rfl ?_
  refine v_aload_n hz dX7_drop_40 rfl ?_
  refine v_getI hz fX7_87 (by assumption) dX7_drop_41 ?_
  refine v_top h3 ?_
  with_reducible refine v_icmp_geN hz 67 (by omega) (by omega) dX7_drop_44 (by decide) (fun c44 => ?_) (fun c44 => ?_)
  · exact v_sub (K R1 hfr (by rw [show kn - 1 = i by omega]; exact hRk)) ⟨rfl, rfl, trivial⟩
  · refine v_aload_n hz dX7_drop_47 rfl ?_
    refine v_getR hz fX7_18 (by assumption) (by assumption) dX7_drop_48 ?_
    refine v_iload_n hz dX7_drop_51 rfl ?_
    refine v_aload_n hz dX7_drop_52 rfl ?_
    refine v_getR hz fX7_18 (by assumption) (by assumption) dX7_drop_53 ?_
    refine v_iload_n hz dX7_drop_56 rfl ?_
    refine v_ic (v := nI 1) hz dX7_drop_57 (by decide) ?_
    first | with_reducible refine v_iaddN hz dX7_drop_58 ?_ | refine v_iadd hz dX7_drop_58 ?_
    refine v_aaldN hz (by omega) (by assumption) (by omega) (by decide) (show R1 (A 10) (i + 1) = some (A (sb (i + 1))) by rw [hRk]; unfold dlk; rw [if_neg (by omega)]; exact (hsh (i + 1) (by omega)).1) dX7_drop_59 ?_
    refine v_aastN hz (t0 := 3) (ci := 5) k10 rfl (hsh (i + 1) (by omega)).2.2.2.1 rfl (by decide) (by decide) n10 (by omega) (by decide) dX7_drop_60 ?_
    first | refine v_iincN hz 1 dX7_drop_61 (by decide) rfl (by decide) rfl ?_ | refine v_iinc hz dX7_drop_61 rfl (by decide) rfl ?_
    refine v_goto hz 39 dX7_drop_64 (by decide) ?_
    refine v_sub (ih (i + 1) _ (by omega) (by omega) (by omega) (fun a ha => by rw [u2_ne ha]; exact hfr a ha) (fun j => ?_)) ⟨rfl, rfl, rfl, rfl, trivial⟩
    by_cases e : j = i
    · rw [e, u2_eq]
      unfold dlk
      rw [if_pos ⟨h1, by omega⟩]
      exact (hsh (i + 1) (by omega)).1.symm
    · rw [u2_at e, hRk]
      unfold dlk
      by_cases e2 : s ≤ j ∧ j < i
      · rw [if_pos e2, if_pos ⟨e2.1, by omega⟩]
      · rw [if_neg e2, if_neg (by omega)]
/-- where what stood at a place has gone -/
def pmD (kn s i : Nat) : Nat := if i = kn - 1 then s else if s ≤ i ∧ i < kn - 1 then i + 1 else i
theorem pmD_c (kn s i : Nat) : (i = kn - 1 ∧ pmD kn s i = s) ∨ (i ≠ kn - 1 ∧ s ≤ i ∧ i < kn - 1 ∧ pmD kn s i = i + 1) ∨ (i ≠ kn - 1 ∧ ¬ (s ≤ i ∧ i < kn - 1) ∧ pmD kn s i = i) := by
  unfold pmD
  by_cases e : i = kn - 1
  · exact Or.inl ⟨e, if_pos e⟩
  · by_cases e2 : s ≤ i ∧ i < kn - 1
    · exact Or.inr (Or.inl ⟨e, e2.1, e2.2, by rw [if_neg e, if_pos e2]⟩)
    · exact Or.inr (Or.inr ⟨e, e2, by rw [if_neg e, if_neg e2]⟩)
theorem pmD_lt {kn s i : Nat} (hk : kn ≤ 12) (hs : s < kn) (hi : i < 13) : pmD kn s i < 13 := by
  have := pmD_c kn s i
  omega
theorem pmD_ne {kn s i j : Nat} (hs : s < kn) (e : i ≠ j) : pmD kn s i ≠ pmD kn s j := by
  have := pmD_c kn s i
  have := pmD_c kn s j
  omega
set_option maxHeartbeats 4000000 in
set_option maxRecDepth 100000 in
theorem cX7_drop_ok (l : Launch) (g : Gz) (κ : Kz) (I : Iz) (R : Rz) (J : Jz) (A sb : Nat → Nat) (hn : LNg κ R A sb) (pg : Nat → Nat) (n kn : Nat) (ks : Nat → Sg) (tm : Nat → Int32) (T : Sg) (qa w bd : Nat) (te td : Int32) (hs : CS I A sb pg n kn ks tm T qa w bd te td) (x : Int32) : Ct l mX7_drop 0 0 g [.ref (A 9), .int x] κ I R J ((fun v κ1 I1 R1 J1 => κ1 = κ ∧ J1 = J ∧ ∃ r, v = some (.int r) ∧ Ft κ cT I I1 ∧ (∀ a, a ≠ A 10 → R1 a = R a) ∧ ∃ sb1, LNg κ R1 A sb1 ∧ (¬ (0 ≤ x ∧ x < nI kn) → r = -1001 ∧ CS I1 A sb1 pg n kn ks tm T qa w bd te td) ∧ (∀ s, s < kn → x = nI s → r = nI (kn - 1) ∧ CS I1 A sb1 pg n (kn - 1) (dlt ks s) (dlt tm s) T qa w bd te (td + nI 1)))) := by
  refine ct_of (by decide) (Nat.le_of_ble_eq_true rfl) ?_
  intro z hz hr hrc hrs
  have hz : Am z cX7_drop RX7 4 2 := hz
  have hr : Rt z yX7_drop (some .int) 0 0 _ := hr
  show V z 4 0 0 0 [(0, .ref (A 9)), (1, .int x)] [] κ I R J
  obtain ⟨k9, o9, ⟨r0, r1, r2, r3, r4, r5, r6⟩, ⟨k10, n10, o10⟩, hsh, hgap, hp, hx, ha, hc, hf, hq⟩ := id hn
  have kp := hp.1
  have op := hp.2.2.2.2.1
  have op2 := hp.2.2.2.2.2
  have kx := hx.1
  have ka := ha.1
  have kc := hc.1
  have kf := hf.1
  have kq := hq.1
  obtain ⟨h0, ⟨h2, h3, h4⟩, ⟨h5, h6⟩, ⟨h8, h8a, h8b, h9, h10⟩, ⟨h11, h12⟩, h13, ⟨h14, h15⟩⟩ := id hs
  refine v_aload_n hz dX7_drop_0 rfl ?_
  refine v_iload_n hz dX7_drop_1 rfl ?_
  refine v_callVi hz lX7_108 (cX7_isKept_ok _ _ _ _ _ _ A sb hn kn x h3) (by assumption) rfl rfl (Nat.le_of_ble_eq_true rfl) (by decide) ⟨Nat.zero_le _, Nat.zero_le _⟩ dX7_drop_2 (fun r I2 q2 => ?_)
  obtain ⟨rfl, eI⟩ := q2
  rw [eI]
  with_reducible refine v_if_neB hz 12 dX7_drop_5 (by decide) (fun c5 => ?_) (fun c5 => ?_)
  · obtain ⟨s, rfl, hsk⟩ := kpt_of (by omega) c5
    refine v_aload_n hz dX7_drop_12 rfl ?_
    refine v_getR hz fX7_18 (by assumption) (by assumption) dX7_drop_13 ?_
    refine v_iload_n hz dX7_drop_16 rfl ?_
    refine v_aaldN hz (by omega) (by assumption) (by omega) (by decide) (hsh s (by omega)).1 dX7_drop_17 ?_
    obtain ⟨Gr, g1, g2⟩ := (h4 s hsk).1.2
    refine v_astore_n hz dX7_drop_18 (by decide) rfl ?_
    refine v_aload_n hz dX7_drop_19 rfl ?_
    refine v_getR hz fX7_30 (by assumption) (by assumption) dX7_drop_20 ?_
    refine v_aload_n hz dX7_drop_23 rfl ?_
    refine v_callVv hz lX7_112 (cX3_remove_ok _ _ _ _ _ _ A hx (sb s) (grn (ks s)) Gr (hlm ccode ks kn) (hsh s (by omega)).2.2.2 (hsh s (by omega)).2.1 g1 (fun c => Nat.le_trans (hlm_le _ _ _ _) (by omega)) (fun c hc => by have := hlm_dlt ccode ks c hsk; rw [g2] at hc; rw [if_pos hc] at this; omega) h13) (by assumption) rfl rfl (Nat.le_of_ble_eq_true rfl) (by decide) ⟨Nat.zero_le _, Nat.zero_le _⟩ dX7_drop_24 (fun I2 q24 => ?_)
    obtain ⟨x1, x2⟩ := q24
    have hF2 := x2.ft hx
    refine v_aload_n hz dX7_drop_27 rfl ?_
    refine v_dup hz dX7_drop_28 rfl ?_
    refine v_getI hz fX7_87 (by assumption) dX7_drop_29 ?_
    refine v_top (y := nI kn) (by rw [hF2.at o9 (by omega)]; exact h3) ?_
    refine v_ic (v := nI 1) hz dX7_drop_32 (by decide) ?_
    first | with_reducible refine v_isubN hz (by omega) dX7_drop_33 ?_ | refine v_isub hz dX7_drop_33 ?_
    refine v_putI hz fX7_87 (by assumption) dX7_drop_34 ?_
    refine v_gen (fun I3 q3 => ?_)
    have e7 : I3 (A 9) 7 = nI (kn - 1) := by rw [q3, u2_eq]
    have e73 : ∀ x, x ≠ 7 → I3 (A 9) x = I (A 9) x := fun x hx => by rw [q3, u2_at hx, hF2.at o9 (by omega)]
    have hF3 : Ft κ (fun t => t = 3 ∨ t = 4 ∨ t = 9) I I3 := by rw [q3]; exact (hF2.wid (fun t ht => by omega)).put o9 (Or.inr (Or.inr rfl))
    have x3 : cix I3 A (fun c => hlm ccode ks kn c - oc Gr (grn (ks s)) c) := by
      rw [q3]; exact x1.ft hx (Ft.rf.p1 (I := I2) o9) (by omega) (by omega)
    refine v_iload_n hz dX7_drop_37 rfl ?_
    refine v_istore_n hz dX7_drop_38 (by decide) rfl ?_
    refine v_sub (lp_drop7 hn hz h2 hsk e7 (fun R1 hfr hRk => ?_) (kn + 1) s R (Nat.le_refl _) (by omega) (by omega) (fun _ _ => rfl) (fun j => by unfold dlk; rw [if_neg (by omega)])) ⟨rfl, rfl, rfl, rfl, trivial⟩
    have rr1 : R1 (A 9) 1 = some (A 10) := by rw [hfr _ (ro_ne k10 k9 (by decide))]; exact r1
    refine v_aload_n hz dX7_drop_67 rfl ?_
    refine v_getR hz fX7_18 (by assumption) rr1 dX7_drop_68 ?_
    refine v_aload_n hz dX7_drop_71 rfl ?_
    refine v_getI hz fX7_87 (by assumption) dX7_drop_72 ?_
    refine v_top (y := nI (kn - 1)) e7 ?_
    refine v_aload_n hz dX7_drop_75 rfl ?_
    refine v_aastN hz (t0 := 3) (ci := 5) k10 rfl (hsh s (by omega)).2.2.2.1 rfl (by decide) (by decide) n10 (by omega) (by decide) dX7_drop_76 ?_
    refine v_aload_n hz dX7_drop_77 rfl ?_
    refine v_dup hz dX7_drop_78 rfl ?_
    refine v_getI hz fX7_115 (by assumption) dX7_drop_79 ?_
    refine v_top (y := td) (by rw [e73 11 (by decide)]; exact h12) ?_
    refine v_ic (v := nI 1) hz dX7_drop_82 (by decide) ?_
    first | with_reducible refine v_iaddN hz dX7_drop_83 ?_ | refine v_iadd hz dX7_drop_83 ?_
    refine v_putI hz fX7_115 (by assumption) dX7_drop_84 ?_
    refine v_aload_n hz dX7_drop_87 rfl ?_
    refine v_ic (v := nI 1) hz dX7_drop_88 (by decide) ?_
    refine v_putZ hz fX7_62 (by assumption) (by first | exact Or.inl rfl | exact Or.inr rfl | exact bz_01) dX7_drop_89 ?_
    refine v_gen (fun I6 q6 => ?_)
    have hF6 : Ft κ (fun t => t = 3 ∨ t = 4 ∨ t = 9) I I6 := by
      rw [q6]; exact (hF3.put o9 (Or.inr (Or.inr rfl))).put o9 (Or.inr (Or.inr rfl))
    have hF36 : Ft κ (fun t => t = 9) I3 I6 := by rw [q6]; exact (Ft.rf.p1 o9).p1 o9
    refine v_aload_n hz dX7_drop_92 rfl ?_
    refine v_getI hz fX7_87 (by assumption) dX7_drop_93 ?_
    refine v_top (y := nI (kn - 1)) (by rw [q6, u2_at (by decide), u2_at (by decide)]; exact e7) ?_
    refine v_iret0 hz hr dX7_drop_96 ⟨rfl, rfl, _, rfl, hF6.wid (fun t ht => Or.inl (by omega)), fun a ha => by rw [u2_ne ha]; exact hfr a ha, fun i => sb (pmD kn s i), LNg.perm (R := R) (R1 := u2 R1 (A 10) (kn - 1) (some (A (sb s)))) k10 (fun a ha => by rw [u2_ne ha]; exact hfr a ha) (pm := pmD kn s) hn (fun i hi => pmD_lt h2 hsk hi) (fun i j hi hj e => pmD_ne hsk e) (fun i hi => ?_), fun q => absurd c5 q, fun s' hs' e' => ?_⟩
    · by_cases e : i = kn - 1
      · rw [e, u2_eq]
        unfold pmD
        rw [if_pos rfl]
        exact (hsh s (by omega)).1.symm
      · rw [u2_at e, hRk]
        unfold dlk pmD
        rw [if_neg e]
        by_cases e2 : s ≤ i ∧ i < kn - 1
        · rw [if_pos e2, if_pos e2]
        · rw [if_neg e2, if_neg e2]
    · have es : s = s' := (nI_eq (by omega) (by omega)).mp e'
      subst es
      have k9f : ∀ x, x ≠ 7 → x ≠ 11 → x ≠ 13 → I6 (A 9) x = I (A 9) x := fun x a b c => by rw [q6, u2_at c, u2_at b, e73 x a]
      have st6 : I6 (A 9) 13 = nI 1 := by rw [q6, u2_eq]
      refine ⟨rfl, ⟨h0.ft hp hF6 (by omega) (by omega), ⟨by omega, by rw [q6, u2_at (by decide), u2_at (by decide)]; exact e7, fun i hi => ?_⟩, ⟨(k9f 12 (by decide) (by decide) (by decide)).trans h5, fun q => (h6 q).ft hq hF6 (fun t a b => by omega)⟩, ⟨(k9f 8 (by decide) (by decide) (by decide)).trans h8, h8a, h8b, (k9f 9 (by decide) (by decide) (by decide)).trans h9, h10⟩, ⟨(k9f 10 (by decide) (by decide) (by decide)).trans h11, by rw [q6, u2_at (by decide), u2_eq]⟩, (x3.ft hx hF36 (by omega) (by omega)).to (fun c => by have := hlm_dlt ccode ks c hs'; unfold oc; rw [g2]; omega), ⟨Or.inr st6, fun q => absurd (st6.symm.trans q) (by decide)⟩⟩⟩
      have ep : pmD kn s i = if i < s then i else i + 1 := by
        unfold pmD
        rw [if_neg (by omega)]
        by_cases e2 : i < s
        · rw [if_neg (by omega), if_pos e2]
        · rw [if_pos ⟨by omega, hi⟩, if_neg e2]
      have hk := keptF hn hF6 (by omega) h4 (fun t a b => by omega) (pmD kn s i) (by rw [ep]; split <;> omega)
      have e1 : dlt ks s i = ks (pmD kn s i) := by
        rw [ep]
        unfold dlt
        split <;> rfl
      have e2 : dlt tm s i = tm (pmD kn s i) := by
        rw [ep]
        unfold dlt
        split <;> rfl
      rw [e1, e2]
      exact hk
  · refine v_si (v := (-1001)) hz dX7_drop_8 (by decide) ?_
    exact v_iret0 hz hr dX7_drop_11 ⟨rfl, rfl, _, rfl, Ft.rf, fun _ _ => rfl, sb, hn, fun _ => ⟨rfl, hs⟩, fun s' hs' e => absurd (by rw [e]; exact kpt_to (by omega) hs') c5⟩
