/-! ===== the class's state ===== -/
/-- all but the cells whose tags are in P is as it was -/
def Ft (κ : Kz) (P : Nat → Prop) (I I1 : Iz) : Prop := ∀ a, ¬ P (κ.2.2 a) → I1 a = I a
def cT (t : Nat) : Prop := t < 130 ∨ 160 ≤ t
theorem Ft.rf {κ : Kz} {P : Nat → Prop} {I : Iz} : Ft κ P I I := fun _ _ => rfl
theorem Ft.tr {κ : Kz} {P : Nat → Prop} {I I1 I2 : Iz} (h : Ft κ P I I1) (k : Ft κ P I1 I2) : Ft κ P I I2 := fun a q => (k a q).trans (h a q)
theorem Ft.wid {κ : Kz} {P Q : Nat → Prop} {I I1 : Iz} (h : Ft κ P I I1) (hPQ : ∀ t, P t → Q t) : Ft κ Q I I1 := fun a q => h a (fun k => q (hPQ _ k))
theorem Ft.put {κ : Kz} {P : Nat → Prop} {I I1 : Iz} {a t j : Nat} {x : Int32} (h : Ft κ P I I1) (ht : κ.2.2 a = t) (hP : P t) : Ft κ P I (u2 I1 a j x) := fun b q => by
  rw [u2_ne (fun e => q (by rw [e, ht]; exact hP))]; exact h b q
theorem Ft.p1 {κ : Kz} {s : Nat} {I I1 : Iz} {a j : Nat} {x : Int32} (h : Ft κ (fun t => t = s) I I1) (ht : κ.2.2 a = s) : Ft κ (fun t => t = s) I (u2 I1 a j x) := h.put ht rfl
theorem Ft.at {κ : Kz} {P : Nat → Prop} {I I1 : Iz} {a t : Nat} (h : Ft κ P I I1) (ht : κ.2.2 a = t) (hP : ¬ P t) : I1 a = I a := h a (by rw [ht]; exact hP)
theorem LGg.tag {κ : Kz} {R : Rz} {A : Nat → Nat} {b : Nat} (h : LGg κ R A b) {t : Nat} (h1 : b ≤ t) (h2 : t < b + 19) : κ.2.2 (A t) = t := by
  obtain ⟨_, t0, ⟨_, _, _, t1⟩, ⟨_, _, _, t2⟩, h8⟩ := h
  by_cases e0 : t = b
  · rw [e0]; exact t0
  by_cases e1 : t = b + 1
  · rw [e1]; exact t1
  by_cases e2 : t = b + 2
  · rw [e2]; exact t2
  have q := (h8 ((t - b - 3) / 2) (by omega)).2
  by_cases e3 : (t - b - 3) % 2 = 0
  · have := q.2.2.2.2.1
    rw [show b + 3 + 2 * ((t - b - 3) / 2) = t by omega] at this
    exact this
  · have := q.2.2.2.2.2
    rw [show b + 3 + 2 * ((t - b - 3) / 2) + 1 = t by omega] at this
    exact this
theorem Ft.pg {κ : Kz} {A : Nat → Nat} {I I1 : Iz} (o : κ.2.2 (A 1) = 1) (h : ∀ b, b ≠ A 1 → I1 b = I b) : Ft κ (fun t => t = 1) I I1 := fun a q => h a (fun e => q (by rw [e, o]))
theorem Fsg.ft {κ : Kz} {R : Rz} {A : Nat → Nat} {b : Nat} {I I1 : Iz} (hg : LGg κ R A b) (h : Fsg A b I I1) : Ft κ (fun t => b ≤ t ∧ t < b + 19) I I1 := fun a q => h a (fun t h1 h2 e => q (by rw [e, hg.tag h1 h2]; exact ⟨h1, h2⟩))
theorem Fix.ft {κ : Kz} {R : Rz} {A : Nat → Nat} {I I1 : Iz} (hx : LIg κ R A) (h : Fix A I I1) : Ft κ (fun t => t = 3 ∨ t = 4) I I1 := fun a q => h a (fun e => q (by rw [e, hx.2.1]; exact Or.inl rfl)) (fun e => q (by rw [e, hx.2.2.2.2.2]; exact Or.inr rfl))
theorem Fac.ft {κ : Kz} {R : Rz} {A : Nat → Nat} {b : Nat} {I I1 : Iz} (ha : LAg κ R A) (hc : LCg κ R A b) (h : Fac A b I I1) : Ft κ (fun t => aT t ∨ (b ≤ t ∧ t < b + 5)) I I1 := fun a q => h a (fun t ht e => q (by
  rcases ht with k | k
  · rw [e, ha.tag k]; exact Or.inl k
  · rw [e, hc.tag k.1 k.2]; exact Or.inr k))
theorem Fe.ft {κ : Kz} {R : Rz} {A : Nat → Nat} {I I1 : Iz} (ha : LAg κ R A) (h : Fe A I I1) : Ft κ (fun t => t = 8) I I1 := fun a q => h a (fun e => q (by rw [e, ha.tag (Or.inl rfl)]))
theorem Ffd.ft {κ : Kz} {R : Rz} {A : Nat → Nat} {I I1 : Iz} (hf : LFg κ R A) (h : Ffd A I I1) : Ft κ (fun t => t = 11 ∨ t = 13 ∨ t = 14) I I1 := fun a q => h a (fun e => q (by rw [e, hf.2.1]; exact Or.inl rfl)) (fun e => q (by rw [e, hf.2.2.2.1.2.2.2]; exact Or.inr (Or.inl rfl))) (fun e => q (by rw [e, hf.2.2.2.2.2.2.2]; exact Or.inr (Or.inr rfl)))
theorem cpg.ft {κ : Kz} {R : Rz} {A : Nat → Nat} {I I1 : Iz} {P : Nat → Prop} {n : Nat} {pg : Nat → Nat} (h : cpg I A n pg) (hp : LPg κ R A) (hF : Ft κ P I I1) (h1 : ¬ P 1) (h2 : ¬ P 2) : cpg I1 A n pg := by
  obtain ⟨a, b, c⟩ := h
  exact ⟨a, by rw [hF.at hp.2.2.2.2.1 h1]; exact b, fun i hi => by rw [hF.at hp.2.2.2.2.2 h2]; exact c i hi⟩
theorem cseg.kp {A : Nat → Nat} {I I1 : Iz} {b : Nat} {S : Sg} (h : cseg I A b S) (h0 : ∀ f, f ≠ 5 → I1 (A b) f = I (A b) f) (hF : ∀ t, b < t → t < b + 19 → I1 (A t) = I (A t)) : cseg I1 A b S := by
  obtain ⟨⟨a1, a2, a3, a4⟩, Gr, g1, g2⟩ := h
  refine ⟨⟨a1, by rw [h0 2 (by decide)]; exact a2, by rw [h0 3 (by decide)]; exact a3, fun i hi => (a4 i hi).keep (hF _ (by omega) (by omega)) (hF _ (by omega) (by omega))⟩, Gr, g1.keep (h0 4 (by decide)) (hF _ (by omega) (by omega)), g2⟩
theorem cseg.ft {κ : Kz} {R : Rz} {A : Nat → Nat} {I I1 : Iz} {P : Nat → Prop} {b : Nat} {S : Sg} (h : cseg I A b S) (hg : LGg κ R A b) (hF : Ft κ P I I1) (hP : ∀ t, b ≤ t → t < b + 19 → ¬ P t) : cseg I1 A b S :=
  h.kp (fun f _ => by rw [hF.at hg.2.1 (hP b (Nat.le_refl _) (by omega))]) (fun t h1 h2 => hF.at (hg.tag (by omega) h2) (hP t (by omega) h2))
theorem cix.ft {κ : Kz} {R : Rz} {A : Nat → Nat} {I I1 : Iz} {P : Nat → Prop} {H : Nat → Nat} (h : cix I A H) (hx : LIg κ R A) (hF : Ft κ P I I1) (h1 : ¬ P 3) (h2 : ¬ P 4) : cix I1 A H := ⟨fun c hc => by rw [hF.at hx.2.2.2.2.2 h2]; exact h.1 c hc, by rw [hF.at hx.2.1 h1]; exact h.2⟩
/-- a row of the findings: what is told of a kept one and the question -/
def rwC (I : Iz) (A : Nat → Nat) (b w bd : Nat) (S T : Sg) : Prop := cmpC I A b w S T ∧ I (A b) 10 = nI (rmO bd (cal w S + cal w T)) ∧ I (A b) 11 = cbL w (wds S) (wds T) (S.1 - wds S) (T.1 - wds T) (rmO bd (cal w S + cal w T)) ∧ I (A b) 12 = cbG (grn S) (grn T) (shn S T) (rmO bd (cal w S + cal w T)) ∧ I (A b) 13 = bz (bd ≤ sco w S T)
theorem rwC.ft {κ : Kz} {R : Rz} {A : Nat → Nat} {I I1 : Iz} {P : Nat → Prop} {b w bd : Nat} {S T : Sg} (h : rwC I A b w bd S T) (hc : LCg κ R A b) (hF : Ft κ P I I1) (hP : ∀ t, b ≤ t → t < b + 5 → ¬ P t) : rwC I1 A b w bd S T := by
  have e0 : I1 (A b) = I (A b) := hF.at hc.2.1 (hP b (Nat.le_refl _) (by omega))
  have e1 : ∀ t, b ≤ t → t < b + 5 → I1 (A t) = I (A t) := fun t h1 h2 => hF.at (hc.tag h1 h2) (hP t h1 h2)
  obtain ⟨⟨a1, a2, a3, a4, k, b1, b2, b3, b4, b5⟩, c1, c2, c3, c4⟩ := h
  unfold rwC cmpC stpC cAr
  rw [e0, e1 (b + 1) (by omega) (by omega), e1 (b + 2) (by omega) (by omega), e1 (b + 3) (by omega) (by omega), e1 (b + 4) (by omega) (by omega)]
  exact ⟨⟨a1, a2, a3, a4, k, b1, b2, b3, b4, b5⟩, c1, c2, c3, c4⟩
def FD (I : Iz) (A : Nat → Nat) (kn : Nat) (ks : Nat → Sg) (T : Sg) (w bd : Nat) : Prop := (∀ i, i < kn → rwC I A (65 + 5 * i) w bd (ks i) T) ∧ fnd I A (rkF w bd ks T kn).1 (sm (fun i => if lnB w bd ks T i then 1 else 0) kn) (sm (fun i => if gmB w bd ks T i then 1 else 0) kn) (sm (fun i => if (lnB w bd ks T i && gmB w bd ks T i) then 1 else 0) kn) (rkF w bd ks T kn).2 (cvF w bd ks T kn)
def fT (t : Nat) : Prop := t = 11 ∨ t = 13 ∨ t = 14 ∨ (65 ≤ t ∧ t < 125)
theorem FD.ft {κ : Kz} {R : Rz} {A : Nat → Nat} {I I1 : Iz} {P : Nat → Prop} {kn w bd : Nat} {ks : Nat → Sg} {T : Sg} (h : FD I A kn ks T w bd) (hf : LFg κ R A) (hF : Ft κ P I I1) (hkn : kn ≤ 12) (hP : ∀ t, fT t → ¬ P t) : FD I1 A kn ks T w bd := by
  obtain ⟨a, b⟩ := h
  refine ⟨fun i hi => (a i hi).ft (hf.2.2.1.2.2.2 i (by omega)).2 hF (fun t h1 h2 => hP t (Or.inr (Or.inr (Or.inr ⟨by omega, by omega⟩)))), ?_⟩
  unfold fnd
  rw [hF.at hf.2.1 (hP 11 (Or.inl rfl)), hF.at hf.2.2.2.1.2.2.2 (hP 13 (Or.inr (Or.inl rfl))), hF.at hf.2.2.2.2.2.2.2 (hP 14 (Or.inr (Or.inr (Or.inl rfl))))]
  exact b
/-- the layout of the whole -/
def LNg (κ : Kz) (R : Rz) (A sb : Nat → Nat) : Prop := κ.1 (A 9) = 7 ∧ κ.2.2 (A 9) = 9 ∧ (R (A 9) 0 = some (A 1) ∧ R (A 9) 1 = some (A 10) ∧ R (A 9) 2 = some (A 460) ∧ R (A 9) 3 = some (A 3) ∧ R (A 9) 4 = some (A 5) ∧ R (A 9) 5 = some (A 60) ∧ R (A 9) 6 = some (A 11)) ∧ (κ.1 (A 10) = 12 ∧ κ.2.1 (A 10) = 13 ∧ κ.2.2 (A 10) = 10) ∧ (∀ i, i < 13 → R (A 10) i = some (A (sb i)) ∧ 200 ≤ sb i ∧ sb i + 20 ≤ 460 ∧ LGg κ R A (sb i)) ∧ (∀ i j, i < 13 → j < 13 → i ≠ j → sb i + 20 ≤ sb j ∨ sb j + 20 ≤ sb i) ∧ LPg κ R A ∧ LIg κ R A ∧ LAg κ R A ∧ LCg κ R A 60 ∧ LFg κ R A ∧ LGg κ R A 460
def CS (I : Iz) (A sb : Nat → Nat) (pg : Nat → Nat) (n kn : Nat) (ks : Nat → Sg) (tm : Nat → Int32) (T : Sg) (qa w bd : Nat) (te td : Int32) : Prop := cpg I A n pg ∧ (kn ≤ 12 ∧ I (A 9) 7 = nI kn ∧ ∀ i, i < kn → cseg I A (sb i) (ks i) ∧ I (A (sb i)) 5 = tm i) ∧ (I (A 9) 12 = nI qa ∧ (0 < qa → cseg I A 460 T)) ∧ (I (A 9) 8 = nI w ∧ 1 ≤ w ∧ w ≤ 20 ∧ I (A 9) 9 = nI bd ∧ bd ≤ 1000) ∧ (I (A 9) 10 = te ∧ I (A 9) 11 = td) ∧ cix I A (hlm ccode ks kn) ∧ ((I (A 9) 13 = 0 ∨ I (A 9) 13 = 1) ∧ (I (A 9) 13 = 0 → FD I A kn ks T w bd))
theorem keptF {κ : Kz} {R : Rz} {A sb : Nat → Nat} {I I1 : Iz} {P : Nat → Prop} {kn : Nat} {ks : Nat → Sg} {tm : Nat → Int32} (hn : LNg κ R A sb) (hF : Ft κ P I I1) (hkn : kn ≤ 13) (h : ∀ i, i < kn → cseg I A (sb i) (ks i) ∧ I (A (sb i)) 5 = tm i) (hP : ∀ t, 200 ≤ t → t < 460 → ¬ P t) : ∀ i, i < kn → cseg I1 A (sb i) (ks i) ∧ I1 (A (sb i)) 5 = tm i := fun i hi => by
  obtain ⟨_, q1, q2, q3⟩ := hn.2.2.2.2.1 i (by omega)
  exact ⟨(h i hi).1.ft q3 hF (fun t h1 h2 => hP t (by omega) (by omega)), by rw [hF.at q3.2.1 (hP _ q1 (by omega))]; exact (h i hi).2⟩
/-- the aligner's rows, the pair and the reference's cells are no part of it -/
def sT (t : Nat) : Prop := aT t ∨ (60 ≤ t ∧ t < 65) ∨ (130 ≤ t ∧ t < 160)
theorem sT_n {t : Nat} (h : t < 8 ∨ (8 < t ∧ t < 15) ∨ (65 ≤ t ∧ t < 130) ∨ 160 ≤ t) : ¬ sT t := fun q => by
  rcases q with (q | q | q) | q | q <;> omega
theorem CS.ft {κ : Kz} {R : Rz} {A sb : Nat → Nat} (hn : LNg κ R A sb) {I I1 : Iz} (hF : Ft κ sT I I1) {pg : Nat → Nat} {n kn : Nat} {ks : Nat → Sg} {tm : Nat → Int32} {T : Sg} {qa w bd : Nat} {te td : Int32} (hs : CS I A sb pg n kn ks tm T qa w bd te td) : CS I1 A sb pg n kn ks tm T qa w bd te td := by
  obtain ⟨h0, ⟨h2, h3, h4⟩, ⟨h5, h6⟩, ⟨h8, h8a, h8b, h9, h10⟩, ⟨h11, h12⟩, h13, ⟨h14, h15⟩⟩ := id hs
  have e9 : I1 (A 9) = I (A 9) := hF.at hn.2.1 (sT_n (by omega))
  obtain ⟨_, _, _, _, hsh, _, hp, hx, ha, hc, hf, hq⟩ := id hn
  unfold CS
  rw [e9]
  exact ⟨h0.ft hp hF (sT_n (by omega)) (sT_n (by omega)), ⟨h2, h3, keptF hn hF (by omega) h4 (fun t a b => sT_n (by omega))⟩, ⟨h5, fun q => (h6 q).ft hq hF (fun t a b => sT_n (by omega))⟩, ⟨h8, h8a, h8b, h9, h10⟩, ⟨h11, h12⟩, h13.ft hx hF (sT_n (by omega)) (sT_n (by omega)), ⟨h14, fun q => (h15 q).ft hf hF h2 (fun t ht => sT_n (by rcases ht with k | k | k | k <;> omega))⟩⟩
theorem Fo.ft {κ : Kz} {A : Nat → Nat} {I I1 : Iz} (hA : ∀ t, 130 ≤ t → t < 160 → 130 ≤ κ.2.2 (A t) ∧ κ.2.2 (A t) < 160) (h : Fo A I I1) : Ft κ sT I I1 := fun a q => h a (fun t h1 h2 e => q (by rw [e]; exact Or.inr (Or.inr (hA t h1 h2))))
theorem MS.ft {κ : Kz} {R : Rz} {A : Nat → Nat} (hm : LM κ R A) {I I1 : Iz} (hF : Ft κ cT I I1) {pg : Nat → Nat} {n kn : Nat} {ks : Nat → Sg} {tm : Nat → Int32} {T : Sg} {qa w bd : Nat} {te td : Int32} (hs : MS I A pg n kn ks tm T qa w bd te td) : MS I1 A pg n kn ks tm T qa w bd te td := by
  have e0 : I1 (A 130) = I (A 130) := hF.at hm.o (fun q => by rcases q with q | q <;> omega)
  have e1 : I1 (A 131) = I (A 131) := hF.at hm.o1 (fun q => by rcases q with q | q <;> omega)
  have e4 : I1 (A 134) = I (A 134) := hF.at hm.o4 (fun q => by rcases q with q | q <;> omega)
  have e5 : I1 (A 135) = I (A 135) := hF.at hm.o5 (fun q => by rcases q with q | q <;> omega)
  have e6 : I1 (A 136) = I (A 136) := hF.at hm.o6 (fun q => by rcases q with q | q <;> omega)
  have e7 : I1 (A 137) = I (A 137) := hF.at hm.o7 (fun q => by rcases q with q | q <;> omega)
  have e8 : I1 (A 138) = I (A 138) := hF.at hm.o8 (fun q => by rcases q with q | q <;> omega)
  unfold MS mpg wt at *
  rw [e0, e1, e5]
  exact ⟨hs.1, ⟨hs.2.1.1, hs.2.1.2.1, fun i hi => ⟨(hs.2.1.2.2 i hi).1.keep e4 e6 e7 e8, (hs.2.1.2.2 i hi).2⟩⟩, ⟨hs.2.2.1.1, hs.2.2.1.2.1, fun q => (hs.2.2.1.2.2 q).keep e4 e6 e7 e8⟩, hs.2.2.2⟩
set_option maxHeartbeats 4000000 in
set_option maxRecDepth 100000 in
theorem cX7_letter_ok (l : Launch) (g : Gz) (κ : Kz) (I : Iz) (R : Rz) (J : Jz) (A sb : Nat → Nat) (hn : LNg κ R A sb) (pg : Nat → Nat) (n kn : Nat) (ks : Nat → Sg) (tm : Nat → Int32) (T : Sg) (qa w bd : Nat) (te td : Int32) (hs : CS I A sb pg n kn ks tm T qa w bd te td) (x : Int32) : Ct l mX7_letter 0 0 g [.ref (A 9), .int x] κ I R J (Si κ R J (fun r I1 => Ft κ cT I I1 ∧ (¬ (nI 32 ≤ x ∧ x ≤ nI 126) → r = -1002 ∧ CS I1 A sb pg n kn ks tm T qa w bd te td) ∧ ((nI 32 ≤ x ∧ x ≤ nI 126) → (n = 48 → r = -1004 ∧ CS I1 A sb pg n kn ks tm T qa w bd te td) ∧ (n < 48 → r = nI (n + 1) ∧ CS I1 A sb (va_up pg n x.toNatClampNeg) (n + 1) kn ks tm T qa w bd te td)))) := by
  refine ct_of (by decide) (Nat.le_of_ble_eq_true rfl) ?_
  intro z hz hr hrc hrs
  have hz : Am z cX7_letter RX7 2 1 := hz
  have hr : Rt z yX7_letter (some .int) 0 0 _ := hr
  show V z 2 0 0 0 [(0, .ref (A 9)), (1, .int x)] [] κ I R J
  obtain ⟨k9, o9, ⟨r0, r1, r2, r3, r4, r5, r6⟩, ⟨k10, n10, o10⟩, hsh, hgap, hp, hx, ha, hc, hf, hq⟩ := id hn
  have kp := hp.1
  have op := hp.2.2.2.2.1
  have op2 := hp.2.2.2.2.2
  have kx := hx.1
  have ka := ha.1
  have kc := hc.1
  have kf := hf.1
  have kq := hq.1
  obtain ⟨h0, ⟨h2, h3, h4⟩, ⟨h5, h6⟩, ⟨h8, h8a, h8b, h9, h10⟩, ⟨h11, h12⟩, h13, ⟨h14, h15⟩⟩ := id hs
  have hn48 := h0.1
  have h0a := h0.2.1
  refine v_iload_n hz dX7_letter_0 rfl ?_
  refine v_bi (v := nI 32) hz dX7_letter_1 (by decide) ?_
  refine v_icmp_lt hz 12 dX7_letter_3 (by decide) (fun c3 => ?_) (fun c3 => ?_)
  · refine v_si (v := (-1002)) hz dX7_letter_12 (by decide) ?_
    exact v_iret hz hr dX7_letter_15 (by
          refine ⟨Ft.rf, fun _ => ⟨rfl, hs⟩, fun q => ?_⟩
          first
          | exact absurd q.1 (Int32.not_le.mpr c3)
          | exact absurd q.2 c9)
  · refine v_iload_n hz dX7_letter_6 rfl ?_
    refine v_bi (v := nI 126) hz dX7_letter_7 (by decide) ?_
    refine v_icmp_le hz 16 dX7_letter_9 (by decide) (fun c9 => ?_) (fun c9 => ?_)
    · refine v_aload_n hz dX7_letter_16 rfl ?_
      refine v_getR hz fX7_12 (by assumption) (by assumption) dX7_letter_17 ?_
      refine v_callVi hz lX7_66 (cX4_isFull_ok _ _ _ _ _ _ A hp n hn48 h0a) (by assumption) rfl rfl (Nat.le_of_ble_eq_true rfl) (by decide) ⟨Nat.zero_le _, Nat.zero_le _⟩ dX7_letter_20 (fun r I1 h20 => ?_)
      obtain ⟨rfl, eI⟩ := h20
      rw [eI]
      with_reducible refine v_if_eqB hz 30 dX7_letter_23 (by decide) (fun c23 => ?_) (fun c23 => ?_)
      · refine v_aload_n hz dX7_letter_30 rfl ?_
        refine v_getR hz fX7_12 (by assumption) (by assumption) dX7_letter_31 ?_
        refine v_iload_n hz dX7_letter_34 rfl ?_
        refine v_callVv hz lX7_70 (cX4_append_ok _ _ _ _ _ _ A hp n x (by omega) h0a) (by assumption) rfl rfl (Nat.le_of_ble_eq_true rfl) (by decide) ⟨Nat.zero_le _, Nat.zero_le _⟩ dX7_letter_35 (fun I2 q35 => ?_)
        refine v_aload_n hz dX7_letter_38 rfl ?_
        refine v_getR hz fX7_12 (by assumption) (by assumption) dX7_letter_39 ?_
        refine v_getI hz fX7_74 (by assumption) dX7_letter_42 ?_
        refine v_top (y := nI (n + 1)) (by rw [q35, u2_eq]) ?_
        exact v_iret hz hr dX7_letter_45 (by
              have hF : Ft κ (fun t => t = 1 ∨ t = 2) I I2 := by rw [q35]; exact (Ft.rf.put op2 (Or.inr rfl)).put op (Or.inl rfl)
              refine ⟨hF.wid (fun t ht => Or.inl (by omega)), fun q => absurd ⟨Int32.not_lt.mp c3, c9⟩ q, fun q => ⟨fun e => absurd e (by omega), fun _ => ⟨rfl, ?_⟩⟩⟩
              obtain ⟨c, rfl, hc1, hc2⟩ := rng_N (by omega) (by omega) q
              rw [nI_clamp (by omega)]
              have ne12 : A 2 ≠ A 1 := tag_ne op2 op (by decide)
              refine ⟨⟨by omega, by rw [q35, u2_eq], fun j hj => ?_⟩, ⟨h2, by rw [hF.at o9 (by omega)]; exact h3, keptF hn hF (by omega) h4 (fun t a b => by omega)⟩, ⟨by rw [hF.at o9 (by omega)]; exact h5, fun q => (h6 q).ft hq hF (fun t a b => by omega)⟩, ⟨by rw [hF.at o9 (by omega)]; exact h8, h8a, h8b, by rw [hF.at o9 (by omega)]; exact h9, h10⟩, ⟨by rw [hF.at o9 (by omega)]; exact h11, by rw [hF.at o9 (by omega)]; exact h12⟩, h13.ft hx hF (by omega) (by omega), ⟨(by rw [show I2 (A 9) 13 = I (A 9) 13 from by rw [hF.at o9 (by omega)]]; exact h14), (fun q => (h15 (by rw [← q]; exact (by rw [hF.at o9 (by omega)]))).ft hf hF h2 (fun t ht => by rcases ht with k | k | k | k <;> omega))⟩⟩
              rw [q35, u2_ne ne12]
              by_cases e : j = n
              · rw [e, u2_eq, vup_s]; exact ⟨rfl, hc2⟩
              · rw [u2_at e, vup_n e]; exact h0.2.2 j (by omega))
      · refine v_si (v := (-1004)) hz dX7_letter_26 (by decide) ?_
        exact v_iret hz hr dX7_letter_29 ⟨Ft.rf, fun q => absurd ⟨Int32.not_lt.mp c3, c9⟩ q, fun _ => ⟨fun _ => ⟨rfl, hs⟩, fun q => absurd q (by omega)⟩⟩
    · refine v_si (v := (-1002)) hz dX7_letter_12 (by decide) ?_
      exact v_iret hz hr dX7_letter_15 (by
            refine ⟨Ft.rf, fun _ => ⟨rfl, hs⟩, fun q => ?_⟩
            first
            | exact absurd q.1 (Int32.not_le.mpr c3)
            | exact absurd q.2 c9)
set_option maxHeartbeats 4000000 in
set_option maxRecDepth 100000 in
theorem cX7_blank_ok (l : Launch) (g : Gz) (κ : Kz) (I : Iz) (R : Rz) (J : Jz) (A sb : Nat → Nat) (hn : LNg κ R A sb) (pg : Nat → Nat) (n kn : Nat) (ks : Nat → Sg) (tm : Nat → Int32) (T : Sg) (qa w bd : Nat) (te td : Int32) (hs : CS I A sb pg n kn ks tm T qa w bd te td) : Ct l mX7_blank 0 0 g [.ref (A 9)] κ I R J (Si κ R J (fun r I1 => Ft κ cT I I1 ∧ r = nI n ∧ CS I1 A sb pg 0 kn ks tm T qa w bd te td)) := by
  refine ct_of (by decide) (Nat.le_of_ble_eq_true rfl) ?_
  intro z hz hr hrc hrs
  have hz : Am z cX7_blank RX7 2 1 := hz
  have hr : Rt z yX7_blank (some .int) 0 0 _ := hr
  show V z 2 0 0 0 [(0, .ref (A 9))] [] κ I R J
  obtain ⟨k9, o9, ⟨r0, r1, r2, r3, r4, r5, r6⟩, ⟨k10, n10, o10⟩, hsh, hgap, hp, hx, ha, hc, hf, hq⟩ := id hn
  have kp := hp.1
  have op := hp.2.2.2.2.1
  have op2 := hp.2.2.2.2.2
  have kx := hx.1
  have ka := ha.1
  have kc := hc.1
  have kf := hf.1
  have kq := hq.1
  obtain ⟨h0, ⟨h2, h3, h4⟩, ⟨h5, h6⟩, ⟨h8, h8a, h8b, h9, h10⟩, ⟨h11, h12⟩, h13, ⟨h14, h15⟩⟩ := id hs
  have h0a := h0.2.1
  refine v_aload_n hz dX7_blank_0 rfl ?_
  refine v_getR hz fX7_12 (by assumption) (by assumption) dX7_blank_1 ?_
  refine v_getI hz fX7_74 (by assumption) dX7_blank_4 ?_
  refine v_top h0a ?_
  refine v_istore_n hz dX7_blank_7 (by decide) rfl ?_
  refine v_aload_n hz dX7_blank_8 rfl ?_
  refine v_getR hz fX7_12 (by assumption) (by assumption) dX7_blank_9 ?_
  refine v_callVv hz lX7_77 (cX4_clear_ok _ _ _ _ _ _ A hp) (by assumption) rfl rfl (Nat.le_of_ble_eq_true rfl) (by decide) ⟨Nat.zero_le _, Nat.zero_le _⟩ dX7_blank_12 (fun I2 q12 => ?_)
  refine v_iload_n hz dX7_blank_15 rfl ?_
  exact v_iret hz hr dX7_blank_16 (by
        have hF : Ft κ (fun t => t = 1) I I2 := by rw [q12]; exact Ft.rf.put op rfl
        exact ⟨hF.wid (fun t ht => Or.inl (by omega)), rfl, ⟨⟨by decide, by rw [q12, u2_eq], fun j hj => absurd hj (Nat.not_lt_zero j)⟩, ⟨h2, by rw [hF.at o9 (by omega)]; exact h3, keptF hn hF (by omega) h4 (fun t a b => by omega)⟩, ⟨by rw [hF.at o9 (by omega)]; exact h5, fun q => (h6 q).ft hq hF (fun t a b => by omega)⟩, ⟨by rw [hF.at o9 (by omega)]; exact h8, h8a, h8b, by rw [hF.at o9 (by omega)]; exact h9, h10⟩, ⟨by rw [hF.at o9 (by omega)]; exact h11, by rw [hF.at o9 (by omega)]; exact h12⟩, h13.ft hx hF (by omega) (by omega), ⟨(by rw [show I2 (A 9) 13 = I (A 9) 13 from by rw [hF.at o9 (by omega)]]; exact h14), (fun q => (h15 (by rw [← q]; exact (by rw [hF.at o9 (by omega)]))).ft hf hF h2 (fun t ht => by rcases ht with k | k | k | k <;> omega))⟩⟩⟩)
set_option maxHeartbeats 4000000 in
set_option maxRecDepth 100000 in
theorem cX7_fault_ok (l : Launch) (g : Gz) (κ : Kz) (I : Iz) (R : Rz) (J : Jz) (A sb : Nat → Nat) (hn : LNg κ R A sb) (pg : Nat → Nat) (n kn : Nat) (ks : Nat → Sg) (tm : Nat → Int32) (T : Sg) (qa w bd : Nat) (te td : Int32) (hs : CS I A sb pg n kn ks tm T qa w bd te td) : Ct l mX7_fault 0 0 g [.ref (A 9)] κ I R J (Si κ R J (fun r I1 => Ft κ cT I I1 ∧ (∃ f, r = nI f ∧ isFt pg n f) ∧ CS I1 A sb pg n kn ks tm T qa w bd te td)) := by
  refine ct_of (by decide) (Nat.le_of_ble_eq_true rfl) ?_
  intro z hz hr hrc hrs
  have hz : Am z cX7_fault RX7 1 4 := hz
  have hr : Rt z yX7_fault (some .int) 0 0 _ := hr
  show V z 1 0 0 0 [(0, .ref (A 9))] [] κ I R J
  obtain ⟨k9, o9, ⟨r0, r1, r2, r3, r4, r5, r6⟩, ⟨k10, n10, o10⟩, hsh, hgap, hp, hx, ha, hc, hf, hq⟩ := id hn
  have kp := hp.1
  have op := hp.2.2.2.2.1
  have op2 := hp.2.2.2.2.2
  have kx := hx.1
  have ka := ha.1
  have kc := hc.1
  have kf := hf.1
  have kq := hq.1
  obtain ⟨h0, ⟨h2, h3, h4⟩, ⟨h5, h6⟩, ⟨h8, h8a, h8b, h9, h10⟩, ⟨h11, h12⟩, h13, ⟨h14, h15⟩⟩ := id hs
  refine v_aload_n hz dX7_fault_0 rfl ?_
  refine v_getR hz fX7_12 (by assumption) (by assumption) dX7_fault_1 ?_
  refine v_callVi hz lX7_80 (cX4_firstFault_ok _ _ _ _ _ _ A hp n pg h0) (by assumption) rfl rfl (Nat.le_of_ble_eq_true rfl) (by decide) ⟨Nat.zero_le _, Nat.zero_le _⟩ dX7_fault_4 (fun r I2 q4 => ?_)
  exact v_iret hz hr dX7_fault_7 (by
        obtain ⟨q1, q2, f, q3, q4, -⟩ := q4
        have hF : Ft κ (fun t => t = 1) I I2 := Ft.pg op q1
        exact ⟨hF.wid (fun t ht => Or.inl (by omega)), ⟨f, q3, q4⟩, ⟨⟨h0.1, q2.trans h0.2.1, fun j hj => by rw [hF.at op2 (by omega)]; exact h0.2.2 j hj⟩, ⟨h2, by rw [hF.at o9 (by omega)]; exact h3, keptF hn hF (by omega) h4 (fun t a b => by omega)⟩, ⟨by rw [hF.at o9 (by omega)]; exact h5, fun q => (h6 q).ft hq hF (fun t a b => by omega)⟩, ⟨by rw [hF.at o9 (by omega)]; exact h8, h8a, h8b, by rw [hF.at o9 (by omega)]; exact h9, h10⟩, ⟨by rw [hF.at o9 (by omega)]; exact h11, by rw [hF.at o9 (by omega)]; exact h12⟩, h13.ft hx hF (by omega) (by omega), ⟨(by rw [show I2 (A 9) 13 = I (A 9) 13 from by rw [hF.at o9 (by omega)]]; exact h14), (fun q => (h15 (by rw [← q]; exact (by rw [hF.at o9 (by omega)]))).ft hf hF h2 (fun t ht => by rcases ht with k | k | k | k <;> omega))⟩⟩⟩)
set_option maxHeartbeats 4000000 in
set_option maxRecDepth 100000 in
theorem cX7_isKept_ok (l : Launch) (g : Gz) (κ : Kz) (I : Iz) (R : Rz) (J : Jz) (A sb : Nat → Nat) (hn : LNg κ R A sb) (kn : Nat) (x : Int32) (h3 : I (A 9) 7 = nI kn) : Ct l mX7_isKept 0 0 g [.ref (A 9), .int x] κ I R J (Si κ R J (fun r I1 => r = bz (0 ≤ x ∧ x < nI kn) ∧ I1 = I)) := by
  refine ct_of (by decide) (Nat.le_of_ble_eq_true rfl) ?_
  intro z hz hr hrc hrs
  have hz : Am z cX7_isKept RX7 2 1 := hz
  have hr : Rt z yX7_isKept (some .boolean) 0 0 _ := hr
  show V z 2 0 0 0 [(0, .ref (A 9)), (1, .int x)] [] κ I R J
  obtain ⟨k9, o9, ⟨r0, r1, r2, r3, r4, r5, r6⟩, ⟨k10, n10, o10⟩, hsh, hgap, hp, hx, ha, hc, hf, hq⟩ := id hn
  have kp := hp.1
  have op := hp.2.2.2.2.1
  have op2 := hp.2.2.2.2.2
  have kx := hx.1
  have ka := ha.1
  have kc := hc.1
  have kf := hf.1
  have kq := hq.1
  refine v_iload_n hz dX7_isKept_0 rfl ?_
  refine v_aload_n hz dX7_isKept_1 rfl ?_
  refine v_getI hz fX7_87 (by assumption) dX7_isKept_2 ?_
  refine v_top h3 ?_
  refine v_callSi hz lX7_124 (cX7_isWithin_ok _ _ _ _ _ _ _ _) rfl rfl (Nat.le_of_ble_eq_true rfl) (by decide) ⟨Nat.zero_le _, Nat.zero_le _⟩ dX7_isKept_5 (fun r I1 q5 => ?_)
  obtain ⟨rfl, rfl⟩ := q5
  exact v_zret hz hr dX7_isKept_8 (by first | exact Or.inl rfl | exact Or.inr rfl | exact bz_01) ⟨rfl, rfl⟩
set_option maxHeartbeats 4000000 in
set_option maxRecDepth 100000 in
theorem cX7_hasQuestion_ok (l : Launch) (g : Gz) (κ : Kz) (I : Iz) (R : Rz) (J : Jz) (A sb : Nat → Nat) (hn : LNg κ R A sb) (qa : Nat) (hqb : qa < 2147483648) (h5 : I (A 9) 12 = nI qa) : Ct l mX7_hasQuestion 0 0 g [.ref (A 9)] κ I R J (Si κ R J (fun r I1 => r = bz (0 < qa) ∧ I1 = I)) := by
  refine ct_of (by decide) (Nat.le_of_ble_eq_true rfl) ?_
  intro z hz hr hrc hrs
  have hz : Am z cX7_hasQuestion RX7 1 0 := hz
  have hr : Rt z yX7_hasQuestion (some .boolean) 0 0 _ := hr
  show V z 1 0 0 0 [(0, .ref (A 9))] [] κ I R J
  obtain ⟨k9, o9, ⟨r0, r1, r2, r3, r4, r5, r6⟩, ⟨k10, n10, o10⟩, hsh, hgap, hp, hx, ha, hc, hf, hq⟩ := id hn
  have kp := hp.1
  have op := hp.2.2.2.2.1
  have op2 := hp.2.2.2.2.2
  have kx := hx.1
  have ka := ha.1
  have kc := hc.1
  have kf := hf.1
  have kq := hq.1
  refine v_aload_n hz dX7_hasQuestion_0 rfl ?_
  refine v_getI hz fX7_118 (by assumption) dX7_hasQuestion_1 ?_
  refine v_top h5 ?_
  with_reducible refine v_if_leN hz 11 (by omega) dX7_hasQuestion_4 (by decide) (fun c4 => ?_) (fun c4 => ?_)
  · refine v_ic (v := nI 0) hz dX7_hasQuestion_11 (by decide) ?_
    exact v_zret hz hr dX7_hasQuestion_12 (by first | exact Or.inl rfl | exact Or.inr rfl | exact bz_01) ⟨(by first | exact (bz_t (by omega)).symm | exact (bz_f (by omega)).symm), rfl⟩
  · refine v_ic (v := nI 1) hz dX7_hasQuestion_7 (by decide) ?_
    refine v_goto hz 12 dX7_hasQuestion_8 (by decide) ?_
    exact v_zret hz hr dX7_hasQuestion_12 (by first | exact Or.inl rfl | exact Or.inr rfl | exact bz_01) ⟨(by first | exact (bz_t (by omega)).symm | exact (bz_f (by omega)).symm), rfl⟩
set_option maxHeartbeats 4000000 in
set_option maxRecDepth 100000 in
theorem cX7_weight_ok (l : Launch) (g : Gz) (κ : Kz) (I : Iz) (R : Rz) (J : Jz) (A sb : Nat → Nat) (hn : LNg κ R A sb) (pg : Nat → Nat) (n kn : Nat) (ks : Nat → Sg) (tm : Nat → Int32) (T : Sg) (qa w bd : Nat) (te td : Int32) (hs : CS I A sb pg n kn ks tm T qa w bd te td) (x : Int32) : Ct l mX7_weight 0 0 g [.ref (A 9), .int x] κ I R J (Si κ R J (fun r I1 => Ft κ cT I I1 ∧ (¬ (nI 1 ≤ x ∧ x ≤ nI 20) → r = -1002 ∧ CS I1 A sb pg n kn ks tm T qa w bd te td) ∧ ((nI 1 ≤ x ∧ x ≤ nI 20) → r = nI w ∧ CS I1 A sb pg n kn ks tm T qa x.toNatClampNeg bd te td))) := by
  refine ct_of (by decide) (Nat.le_of_ble_eq_true rfl) ?_
  intro z hz hr hrc hrs
  have hz : Am z cX7_weight RX7 3 0 := hz
  have hr : Rt z yX7_weight (some .int) 0 0 _ := hr
  show V z 3 0 0 0 [(0, .ref (A 9)), (1, .int x)] [] κ I R J
  obtain ⟨k9, o9, ⟨r0, r1, r2, r3, r4, r5, r6⟩, ⟨k10, n10, o10⟩, hsh, hgap, hp, hx, ha, hc, hf, hq⟩ := id hn
  have kp := hp.1
  have op := hp.2.2.2.2.1
  have op2 := hp.2.2.2.2.2
  have kx := hx.1
  have ka := ha.1
  have kc := hc.1
  have kf := hf.1
  have kq := hq.1
  obtain ⟨h0, ⟨h2, h3, h4⟩, ⟨h5, h6⟩, ⟨h8, h8a, h8b, h9, h10⟩, ⟨h11, h12⟩, h13, ⟨h14, h15⟩⟩ := id hs
  refine v_iload_n hz dX7_weight_0 rfl ?_
  refine v_ic (v := nI 1) hz dX7_weight_1 (by decide) ?_
  refine v_icmp_lt hz 11 dX7_weight_2 (by decide) (fun c2 => ?_) (fun c2 => ?_)
  · refine v_si (v := (-1002)) hz dX7_weight_11 (by decide) ?_
    exact v_iret hz hr dX7_weight_14 (by
          refine ⟨Ft.rf, fun _ => ⟨rfl, hs⟩, fun q => ?_⟩
          first
          | exact absurd q.1 (Int32.not_le.mpr c2)
          | exact absurd q.2 c8)
  · refine v_iload_n hz dX7_weight_5 rfl ?_
    refine v_bi (v := nI 20) hz dX7_weight_6 (by decide) ?_
    refine v_icmp_le hz 15 dX7_weight_8 (by decide) (fun c8 => ?_) (fun c8 => ?_)
    · refine v_aload_n hz dX7_weight_15 rfl ?_
      refine v_getI hz fX7_55 (by assumption) dX7_weight_16 ?_
      refine v_top h8 ?_
      refine v_istore_n hz dX7_weight_19 (by decide) rfl ?_
      refine v_aload_n hz dX7_weight_20 rfl ?_
      refine v_iload_n hz dX7_weight_21 rfl ?_
      refine v_putI hz fX7_55 (by assumption) dX7_weight_22 ?_
      refine v_aload_n hz dX7_weight_25 rfl ?_
      refine v_ic (v := nI 1) hz dX7_weight_26 (by decide) ?_
      refine v_putZ hz fX7_62 (by assumption) (by first | exact Or.inl rfl | exact Or.inr rfl | exact bz_01) dX7_weight_27 ?_
      refine v_iload_n hz dX7_weight_30 rfl ?_
      exact v_iret hz hr dX7_weight_31 (by
            refine ⟨(Ft.rf.put o9 (Or.inl (by decide))).put o9 (Or.inl (by decide)), fun q => absurd ⟨Int32.not_lt.mp c2, c8⟩ q, fun q => ⟨rfl, ?_⟩⟩
            obtain ⟨c, rfl, hc1, hc2⟩ := rng_N (by omega) (by omega) q
            rw [nI_clamp (by omega)]
            have hF : Ft κ (fun t => t = 9) I (u2 (u2 I (A 9) 8 (nI c)) (A 9) 13 (nI 1)) := (Ft.rf.p1 o9).p1 o9
            have k9f : ∀ x, x ≠ 13 → x ≠ 8 → u2 (u2 I (A 9) 8 (nI c)) (A 9) 13 (nI 1) (A 9) x = I (A 9) x := fun x a b => by rw [u2_at a, u2_at b]
            exact ⟨h0.ft hp hF (by omega) (by omega), ⟨h2, (k9f 7 (by decide) (by decide)).trans h3, keptF hn hF (by omega) h4 (fun t a b => by omega)⟩, ⟨(k9f 12 (by decide) (by decide)).trans h5, fun q => (h6 q).ft hq hF (fun t a b => by omega)⟩, ⟨by rw [u2_at (by decide), u2_eq], hc1, hc2, (k9f 9 (by decide) (by decide)).trans h9, h10⟩, ⟨(k9f 10 (by decide) (by decide)).trans h11, (k9f 11 (by decide) (by decide)).trans h12⟩, h13.ft hx hF (by omega) (by omega), ⟨Or.inr u2_eq, fun q => absurd (u2_eq.symm.trans q) (by decide)⟩⟩)
    · refine v_si (v := (-1002)) hz dX7_weight_11 (by decide) ?_
      exact v_iret hz hr dX7_weight_14 (by
            refine ⟨Ft.rf, fun _ => ⟨rfl, hs⟩, fun q => ?_⟩
            first
            | exact absurd q.1 (Int32.not_le.mpr c2)
            | exact absurd q.2 c8)
set_option maxHeartbeats 4000000 in
set_option maxRecDepth 100000 in
theorem cX7_bound_ok (l : Launch) (g : Gz) (κ : Kz) (I : Iz) (R : Rz) (J : Jz) (A sb : Nat → Nat) (hn : LNg κ R A sb) (pg : Nat → Nat) (n kn : Nat) (ks : Nat → Sg) (tm : Nat → Int32) (T : Sg) (qa w bd : Nat) (te td : Int32) (hs : CS I A sb pg n kn ks tm T qa w bd te td) (x : Int32) : Ct l mX7_bound 0 0 g [.ref (A 9), .int x] κ I R J (Si κ R J (fun r I1 => Ft κ cT I I1 ∧ (¬ (nI 0 ≤ x ∧ x ≤ nI 1000) → r = -1002 ∧ CS I1 A sb pg n kn ks tm T qa w bd te td) ∧ ((nI 0 ≤ x ∧ x ≤ nI 1000) → r = nI bd ∧ CS I1 A sb pg n kn ks tm T qa w x.toNatClampNeg te td))) := by
  refine ct_of (by decide) (Nat.le_of_ble_eq_true rfl) ?_
  intro z hz hr hrc hrs
  have hz : Am z cX7_bound RX7 3 0 := hz
  have hr : Rt z yX7_bound (some .int) 0 0 _ := hr
  show V z 3 0 0 0 [(0, .ref (A 9)), (1, .int x)] [] κ I R J
  obtain ⟨k9, o9, ⟨r0, r1, r2, r3, r4, r5, r6⟩, ⟨k10, n10, o10⟩, hsh, hgap, hp, hx, ha, hc, hf, hq⟩ := id hn
  have kp := hp.1
  have op := hp.2.2.2.2.1
  have op2 := hp.2.2.2.2.2
  have kx := hx.1
  have ka := ha.1
  have kc := hc.1
  have kf := hf.1
  have kq := hq.1
  obtain ⟨h0, ⟨h2, h3, h4⟩, ⟨h5, h6⟩, ⟨h8, h8a, h8b, h9, h10⟩, ⟨h11, h12⟩, h13, ⟨h14, h15⟩⟩ := id hs
  refine v_iload_n hz dX7_bound_0 rfl ?_
  refine v_if_lt hz 11 dX7_bound_1 (by decide) (fun c1 => ?_) (fun c1 => ?_)
  · refine v_si (v := (-1002)) hz dX7_bound_11 (by decide) ?_
    exact v_iret hz hr dX7_bound_14 (by
          refine ⟨Ft.rf, fun _ => ⟨rfl, hs⟩, fun q => ?_⟩
          first
          | exact absurd q.1 (Int32.not_le.mpr c1)
          | exact absurd q.2 c8)
  · refine v_iload_n hz dX7_bound_4 rfl ?_
    refine v_si (v := nI 1000) hz dX7_bound_5 (by decide) ?_
    refine v_icmp_le hz 15 dX7_bound_8 (by decide) (fun c8 => ?_) (fun c8 => ?_)
    · refine v_aload_n hz dX7_bound_15 rfl ?_
      refine v_getI hz fX7_59 (by assumption) dX7_bound_16 ?_
      refine v_top h9 ?_
      refine v_istore_n hz dX7_bound_19 (by decide) rfl ?_
      refine v_aload_n hz dX7_bound_20 rfl ?_
      refine v_iload_n hz dX7_bound_21 rfl ?_
      refine v_putI hz fX7_59 (by assumption) dX7_bound_22 ?_
      refine v_aload_n hz dX7_bound_25 rfl ?_
      refine v_ic (v := nI 1) hz dX7_bound_26 (by decide) ?_
      refine v_putZ hz fX7_62 (by assumption) (by first | exact Or.inl rfl | exact Or.inr rfl | exact bz_01) dX7_bound_27 ?_
      refine v_iload_n hz dX7_bound_30 rfl ?_
      exact v_iret hz hr dX7_bound_31 (by
            refine ⟨(Ft.rf.put o9 (Or.inl (by decide))).put o9 (Or.inl (by decide)), fun q => absurd ⟨Int32.not_lt.mp c1, c8⟩ q, fun q => ⟨rfl, ?_⟩⟩
            obtain ⟨c, rfl, hc1, hc2⟩ := rng_N (by omega) (by omega) q
            rw [nI_clamp (by omega)]
            have hF : Ft κ (fun t => t = 9) I (u2 (u2 I (A 9) 9 (nI c)) (A 9) 13 (nI 1)) := (Ft.rf.p1 o9).p1 o9
            have k9f : ∀ x, x ≠ 13 → x ≠ 9 → u2 (u2 I (A 9) 9 (nI c)) (A 9) 13 (nI 1) (A 9) x = I (A 9) x := fun x a b => by rw [u2_at a, u2_at b]
            exact ⟨h0.ft hp hF (by omega) (by omega), ⟨h2, (k9f 7 (by decide) (by decide)).trans h3, keptF hn hF (by omega) h4 (fun t a b => by omega)⟩, ⟨(k9f 12 (by decide) (by decide)).trans h5, fun q => (h6 q).ft hq hF (fun t a b => by omega)⟩, ⟨(k9f 8 (by decide) (by decide)).trans h8, h8a, h8b, by rw [u2_at (by decide), u2_eq], hc2⟩, ⟨(k9f 10 (by decide) (by decide)).trans h11, (k9f 11 (by decide) (by decide)).trans h12⟩, h13.ft hx hF (by omega) (by omega), ⟨Or.inr u2_eq, fun q => absurd (u2_eq.symm.trans q) (by decide)⟩⟩)
    · refine v_si (v := (-1002)) hz dX7_bound_11 (by decide) ?_
      exact v_iret hz hr dX7_bound_14 (by
            refine ⟨Ft.rf, fun _ => ⟨rfl, hs⟩, fun q => ?_⟩
            first
            | exact absurd q.1 (Int32.not_le.mpr c1)
            | exact absurd q.2 c8)
