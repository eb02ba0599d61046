/-! ===== fields and arrays over the memory ===== -/
def CLz (c : Nat) (C : String) (T : u_T) (N : Nat) : Prop :=
  vwCl[c]? = some (C, T, N) ∧ N = nfz c ∧ c < 9 ∧ (∀ w ∈ u_ws C T N, w ∈ tg) ∧ (∃ ty : Nat → FieldType, ∀ k, k < N → parseFieldDescriptor (T k).2.2.1 = some (ty k)) ∧ (∀ a, a < N → ∀ b, b < N → a ≠ b → (T a).2.1 ≠ (T b).2.1) ∧ (∀ k, k < N → (T k).1 = C)
/-- the constant own#idx names the field k of the class c; t: its sort (0 int, 1 reference, 2 long) -/
def FLz (own : String) (idx c k t : Nat) (ty : FieldType) (fin : Bool) : Prop :=
  ∃ (C : String) (T : u_T) (N : Nat), CLz c C T N ∧ k < N ∧ ftz c k = t ∧ parseFieldDescriptor (T k).2.2.1 = some ty ∧ (T k).2.2.2 = fin ∧
    (Cond.fieldLink own idx C (T k).2.1 (T k).2.2.1 ∈ tg ∨ ∃ host, Cond.fieldLinkNest own idx C (T k).2.1 (T k).2.2.1 host ∈ tn)
section VH
variable {z : Zz} {cc : ByteArray} {own : String} {nL d k n pc : Nat} {lv : List (Nat × Value)} {st : List Value} {κ : Kz} {I : Iz} {R : Rz} {J : Jz}
theorem v_get (hz : Am z cc own nL d) {idx c f t : Nat} {ty : FieldType} {fin : Bool} (fl : FLz own idx c f t ty fin) {a : Nat} (hK : κ.1 a = c) (dd : decode cc pc = .ok (.getfield idx, 3))
    (h : V z nL k n (pc + 3) lv (fvz t I R J a f :: st) κ I R J) : V z nL k n pc lv (.ref a :: st) κ I R J := by
  obtain ⟨C, T, N, ⟨hc, hN, hc9, hin, ⟨ty0, hty⟩, hnm, hC⟩, hf, ht, -, -, hlk⟩ := fl
  obtain ⟨⟨hexec, hb, -, hown, hts⟩, ⟨hKK, hNN, -⟩, -, -, -⟩ := hz
  intro ls H locs hl hM hS
  have hob := (hM a).2.1 (by rw [hK]; exact hc9)
  rw [hK] at hob
  obtain ⟨cell, q1, q2, q3, q4⟩ := hob
  obtain ⟨hSl, hfc, kC, hkC, hkind⟩ := hKK.1 c _ hc
  obtain ⟨cf, kf, fi, fd, hi, hsl⟩ := hSl f hf
  have hst := (u_facts hfc hkC (u_lays hts hin hf) hi).1
  have hv : cell.slots[fd.slot]? = some (fvz t I R J a f) := by rw [hsl, ← ht]; exact q4 f (by rw [← hN]; exact hf)
  have hi' : (zs z).fieldFound? C (T f).2.1 (T f).2.2.1 = some (cf, kf, fi, fd) := by
    have := hi
    rw [show ((C, T, N) : vw_C).2.1 = T from rfl, hC f hf] at this
    exact this
  rcases hlk with hlk | ⟨host, hlk⟩
  · exact W.getf hexec hb hown (hts _ hlk) hi' hst q1 (by rw [q3]; exact fun h => by cases h) hv rfl rfl dd (h ls H locs hl hM hS)
  · exact va_Wgetf hexec hb hown (nest_use rfl (hNN _ hlk)) hi' hst q1 (by rw [q3]; exact fun h => by cases h) hv rfl rfl dd (h ls H locs hl hM hS)
theorem v_getI (hz : Am z cc own nL d) {idx c f : Nat} {ty : FieldType} {fin : Bool} (fl : FLz own idx c f 0 ty fin) {a : Nat} (hK : κ.1 a = c) (dd : decode cc pc = .ok (.getfield idx, 3))
    (h : V z nL k n (pc + 3) lv (.int (I a f) :: st) κ I R J) : V z nL k n pc lv (.ref a :: st) κ I R J := v_get hz fl hK dd h
theorem v_getR (hz : Am z cc own nL d) {idx c f b : Nat} {ty : FieldType} {fin : Bool} (fl : FLz own idx c f 1 ty fin) {a : Nat} (hK : κ.1 a = c) (hR : R a f = some b) (dd : decode cc pc = .ok (.getfield idx, 3))
    (h : V z nL k n (pc + 3) lv (.ref b :: st) κ I R J) : V z nL k n pc lv (.ref a :: st) κ I R J := v_get hz fl hK dd (by
  show V z nL k n (pc + 3) lv (va_rf (R a f) :: st) κ I R J
  rw [hR]
  exact h)
theorem v_getJ (hz : Am z cc own nL d) {idx c f : Nat} {ty : FieldType} {fin : Bool} (fl : FLz own idx c f 2 ty fin) {a : Nat} (hK : κ.1 a = c) (dd : decode cc pc = .ok (.getfield idx, 3))
    (h : V z nL k n (pc + 3) lv (.long (J a f) :: st) κ I R J) : V z nL k n pc lv (.ref a :: st) κ I R J := v_get hz fl hK dd h
/-- a store into a field that isn't final -/
theorem v_put (hz : Am z cc own nL d) {idx c f t : Nat} {ty : FieldType} (fl : FLz own idx c f t ty false) {a : Nat} (hK : κ.1 a = c) {v : Value} (hn : narrow ty v = v) (hfit : fits ty v = true) (dd : decode cc pc = .ok (.putfield idx, 3))
    {I1 : Iz} {R1 : Rz} {J1 : Jz} (hI : ∀ b, b ≠ a → I1 b = I b) (hR : ∀ b, b ≠ a → R1 b = R b) (hJ : ∀ b, b ≠ a → J1 b = J b)
    (hval : ∀ j, updV (fun k => fvz (ftz c k) I R J a k) f v j = fvz (ftz c j) I1 R1 J1 a j)
    (h : V z nL k n (pc + 3) lv st κ I1 R1 J1) : V z nL k n pc lv (v :: .ref a :: st) κ I R J := by
  obtain ⟨C, T, N, ⟨hc, hN, hc9, hin, ⟨ty0, hty⟩, hnm, hC⟩, hf, ht, hd, hfin, hlk⟩ := fl
  obtain ⟨⟨hexec, hb, -, hown, hts⟩, ⟨hKK, hNN, -⟩, -, -, -⟩ := hz
  intro ls H locs hl hM hS
  have hlo : (zg z).2.2 ≤ a := (hM a).1 (by rw [hK]; omega)
  have hob := (hM a).2.1 (by rw [hK]; exact hc9)
  rw [hK] at hob
  obtain ⟨cell, q1, q2, q3, q4⟩ := hob
  have hap := va_apart (own := own) hts hin ty0 hty hnm hKK hc
  obtain ⟨hSl, hfc, kC, hkC, hkind⟩ := hKK.1 c _ hc
  obtain ⟨cf, kf, fi, fd, hi, hsl⟩ := hSl f hf
  have hlay := hts _ (hin _ (u_in_lay hf))
  unfold u_lay at hlay
  rw [if_neg (by rw [hfin]; decide)] at hlay
  have hst := (u_facts hfc hkC (u_lays hts hin hf) hi).1
  have h6 := u_store hfc hkC hkind hlay hi hd hn hfit
  have hi' : (zs z).fieldFound? C (T f).2.1 (T f).2.2.1 = some (cf, kf, fi, fd) := by
    have := hi
    rw [show ((C, T, N) : vw_C).2.1 = T from rfl, hC f hf] at this
    exact this
  have hfn : f < nfz c := by rw [← hN]; exact hf
  have fin : ∀ H' : Heap, H'[a]? = some (cell.setSlot fd.slot v) → H'.size = H.size → (∀ q, q ≠ a → H'[q]? = H[q]?) → W (zp z) (zl z) (ze z) (zR z) (zs z) (zm z) (za z) (zb z) (zt z) (zc z) H' (locs ++ [⟨a, fd.slot⟩]) k n (zq z) (F0 (zm z) (pc + 3) ls st) := by
    intro H' e1 e2 e3
    rw [hsl] at e1
    refine h ls H' _ hl (hM.one hI hR hJ e3 ⟨fun _ => ?_, fun q => ?_, fun q => ?_⟩) (hS.put e2 e3 hlo)
    · rw [hK]
      exact t_OB.to (V := updV (fun k => fvz (ftz c k) I R J a k) f v) ⟨_, e1, q2, q3, t_set q4 (by rw [← hN]; exact hap) hfn v⟩ (fun j _ => hval j)
    · rw [hK] at q; omega
    · rw [hK] at q; omega
  rcases hlk with hlk | ⟨host, hlk⟩
  · exact W.putK hexec hb (f := fd) ⟨hown, hts _ hlk, ⟨_, _, _, hi'⟩, hst⟩ (by rw [q2]; exact h6) q1 q3 (by rw [hsl]; exact k2_hasslot (q4 f hfn)) rfl rfl dd fin
  · exact va_WputK hexec hb (f := fd) hown (nest_use rfl (hNN _ hlk)) hi' hst (by rw [q2]; exact h6) q1 q3 (by rw [hsl]; exact k2_hasslot (q4 f hfn)) rfl rfl dd fin
theorem hval_I {c f a : Nat} {x : Int32} (ht : ftz c f = 0) (j : Nat) : updV (fun k => fvz (ftz c k) I R J a k) f (.int x) j = fvz (ftz c j) (u2 I a f x) R J a j := by
  by_cases e : j = f
  · subst e
    simp [updV, fvz, ht, u2]
  · simp only [updV, e, if_false]
    unfold fvz
    split <;> simp [u2, e]
theorem hval_J {c f a : Nat} {x : Int64} (ht : ftz c f = 2) (j : Nat) : updV (fun k => fvz (ftz c k) I R J a k) f (.long x) j = fvz (ftz c j) I R (u2 J a f x) a j := by
  by_cases e : j = f
  · subst e
    simp [updV, fvz, ht, u2]
  · simp only [updV, e, if_false]
    unfold fvz
    split <;> simp [u2, e]
theorem FLz.ft {idx c f t : Nat} {ty : FieldType} {fin : Bool} (fl : FLz own idx c f t ty fin) : ftz c f = t := by
  obtain ⟨_, _, _, -, -, h, -⟩ := fl
  exact h
theorem v_putI (hz : Am z cc own nL d) {idx c f : Nat} (fl : FLz own idx c f 0 .int false) {a : Nat} (hK : κ.1 a = c) {x : Int32} (dd : decode cc pc = .ok (.putfield idx, 3))
    (h : V z nL k n (pc + 3) lv st κ (u2 I a f x) R J) : V z nL k n pc lv (.int x :: .ref a :: st) κ I R J :=
  v_put hz fl hK (vp_nar_int x) (by rfl) dd (fun _ q => u2_ne q) (fun _ _ => rfl) (fun _ _ => rfl) (hval_I fl.ft) h
theorem v_putZ (hz : Am z cc own nL d) {idx c f : Nat} (fl : FLz own idx c f 0 .boolean false) {a : Nat} (hK : κ.1 a = c) {x : Int32} (hx : x = 0 ∨ x = 1) (dd : decode cc pc = .ok (.putfield idx, 3))
    (h : V z nL k n (pc + 3) lv st κ (u2 I a f x) R J) : V z nL k n pc lv (.int x :: .ref a :: st) κ I R J :=
  v_put hz fl hK (by rcases hx with rfl | rfl <;> rfl) (by rcases hx with rfl | rfl <;> rfl) dd (fun _ q => u2_ne q) (fun _ _ => rfl) (fun _ _ => rfl) (hval_I fl.ft) h
theorem v_putJ (hz : Am z cc own nL d) {idx c f : Nat} (fl : FLz own idx c f 2 .long false) {a : Nat} (hK : κ.1 a = c) {x : Int64} (dd : decode cc pc = .ok (.putfield idx, 3))
    (h : V z nL k n (pc + 3) lv st κ I R (u2 J a f x)) : V z nL k n pc lv (.long x :: .ref a :: st) κ I R J :=
  v_put hz fl hK (by rfl) (by rfl) dd (fun _ _ => rfl) (fun _ _ => rfl) (fun _ q => u2_ne q) (hval_J fl.ft) h
/-! arrays of ints -/
theorem ii_in {j N : Nat} (h : j < N) (hN : N < 2147483648) : vp_in (nI j) N := vp_in_nI h hN
theorem v_iald (hz : Am z cc own nL d) {a : Nat} (hK : κ.1 a = 9) {i : Int32} (hin : vp_in i (κ.2.1 a)) (dd : decode cc pc = .ok (.iaload, 1))
    (h : V z nL k n (pc + 1) lv (.int (I a i.toNatClampNeg) :: st) κ I R J) : V z nL k n pc lv (.int i :: .ref a :: st) κ I R J := by
  obtain ⟨⟨hexec, hb, -, hown, hts⟩, ⟨hKK, hNN, -⟩, -, -, -⟩ := hz
  intro ls H locs hl hM hS
  have hcell := (hM a).2.2.1 (Or.inl hK)
  rw [hK] at hcell
  exact va_iald hexec hb hKK (ws := [(a, .inl (_, κ.2.1 a, .inl (I a)))]) (fun k9 q hq => by
    have h0 : k9 < 1 := (List.getElem?_eq_some_iff.mp hq).1
    rw [show k9 = 0 by omega] at hq
    cases hq
    exact hcell) 0 0 rfl rfl hin dd (h ls H locs hl hM hS)
theorem v_zald (hz : Am z cc own nL d) {a : Nat} (hK : κ.1 a = 10) {i : Int32} (hin : vp_in i (κ.2.1 a)) (dd : decode cc pc = .ok (.baload, 1))
    (h : V z nL k n (pc + 1) lv (.int (I a i.toNatClampNeg) :: st) κ I R J) : V z nL k n pc lv (.int i :: .ref a :: st) κ I R J := by
  obtain ⟨⟨hexec, hb, -, hown, hts⟩, ⟨hKK, hNN, -⟩, -, -, -⟩ := hz
  intro ls H locs hl hM hS
  have hcell := (hM a).2.2.1 (Or.inr hK)
  rw [hK] at hcell
  exact va_zald hexec hb hKK (ws := [(a, .inl (_, κ.2.1 a, .inl (I a)))]) (fun k9 q hq => by
    have h0 : k9 < 1 := (List.getElem?_eq_some_iff.mp hq).1
    rw [show k9 = 0 by omega] at hq
    cases hq
    exact hcell) 0 1 rfl rfl hin dd (h ls H locs hl hM hS)
theorem u2_arr (f : Nat → Nat → Int32) (a i : Nat) (x : Int32) : (fun q => updV (fun j => Value.int (f a j)) i (.int x) q) = fun q => .int (u2 f a i x a q) := by
  funext q
  by_cases hq : q = i
  · subst hq
    simp [updV, u2]
  · simp [updV, u2, hq]
theorem v_iast (hz : Am z cc own nL d) {a : Nat} (hK : κ.1 a = 9) {i x : Int32} (hin : vp_in i (κ.2.1 a)) (dd : decode cc pc = .ok (.iastore, 1))
    (h : V z nL k n (pc + 1) lv st κ (u2 I a i.toNatClampNeg x) R J) : V z nL k n pc lv (.int x :: .int i :: .ref a :: st) κ I R J := by
  obtain ⟨⟨hexec, hb, -, hown, hts⟩, ⟨hKK, hNN, -⟩, -, -, -⟩ := hz
  intro ls H locs hl hM hS
  have hlo : (zg z).2.2 ≤ a := (hM a).1 (by rw [hK]; omega)
  have hcell := (hM a).2.2.1 (Or.inl hK)
  rw [hK] at hcell
  refine W.iast hexec hb hcell ((hKK.2 0 _ rfl).1 (κ.2.1 a) (fun j => .int (I a j))) (fun q => by cases q) (by show ¬ (i < 0 ∨ (arrV _ _ _).slots.size ≤ _); rw [arrV_size]; exact hin) rfl rfl dd fun H1 e z1 oq => ?_
  refine h ls H1 _ hl (hM.one (fun _ q => u2_ne q) (fun _ _ => rfl) (fun _ _ => rfl) oq ⟨fun q => ?_, fun _ => ?_, fun q => ?_⟩) (hS.put z1 oq hlo)
  · rw [hK] at q; omega
  · rw [hK, e, vp_cell_i, vp_cell_i, arrV_store]
    exact congrArg (fun f => some (arrV _ _ f)) (u2_arr I a _ x)
  · rw [hK] at q; omega
theorem v_zast (hz : Am z cc own nL d) {a : Nat} (hK : κ.1 a = 10) {i x : Int32} (hx : x = 0 ∨ x = 1) (hin : vp_in i (κ.2.1 a)) (dd : decode cc pc = .ok (.bastore, 1))
    (h : V z nL k n (pc + 1) lv st κ (u2 I a i.toNatClampNeg x) R J) : V z nL k n pc lv (.int x :: .int i :: .ref a :: st) κ I R J := by
  obtain ⟨⟨hexec, hb, -, hown, hts⟩, ⟨hKK, hNN, -⟩, -, -, -⟩ := hz
  intro ls H locs hl hM hS
  have hlo : (zg z).2.2 ≤ a := (hM a).1 (by rw [hK]; omega)
  have hcell := (hM a).2.2.1 (Or.inr hK)
  rw [hK] at hcell
  refine W.zast hexec hb hcell ((hKK.2 1 _ rfl).1 (κ.2.1 a) (fun j => .int (I a j))) (fun q => by cases q) (by show ¬ (i < 0 ∨ (arrV _ _ _).slots.size ≤ _); rw [arrV_size]; exact hin) rfl rfl dd fun H1 e z1 oq => ?_
  rw [show narrow .boolean (.int x) = .int x by rcases hx with rfl | rfl <;> rfl] at e
  refine h ls H1 _ hl (hM.one (fun _ q => u2_ne q) (fun _ _ => rfl) (fun _ _ => rfl) oq ⟨fun q => ?_, fun _ => ?_, fun q => ?_⟩) (hS.put z1 oq hlo)
  · rw [hK] at q; omega
  · rw [hK, e, vp_cell_i, vp_cell_i, arrV_store]
    exact congrArg (fun f => some (arrV _ _ f)) (u2_arr I a _ x)
  · rw [hK] at q; omega
/-! arrays of references -/
theorem v_aald (hz : Am z cc own nL d) {a b : Nat} (hK : 11 ≤ κ.1 a ∧ κ.1 a < 15) {i : Int32} (hin : vp_in i (κ.2.1 a)) (hR : R a i.toNatClampNeg = some b) (dd : decode cc pc = .ok (.aaload, 1))
    (h : V z nL k n (pc + 1) lv (.ref b :: st) κ I R J) : V z nL k n pc lv (.int i :: .ref a :: st) κ I R J := by
  obtain ⟨⟨hexec, hb, -, hown, hts⟩, ⟨hKK, hNN, -⟩, -, -, -⟩ := hz
  intro ls H locs hl hM hS
  have hcell := (hM a).2.2.2 hK
  have hlt : i.toNatClampNeg < κ.2.1 a := Nat.not_le.mp fun q => hin (Or.inr q)
  have ht : ∃ ty : FieldType, ty.isReference = true ∧ ArrOfT (zs z) ((zg z).2.1 (κ.1 a)) ty := by
    rcases (show κ.1 a = 11 ∨ κ.1 a = 12 ∨ κ.1 a = 13 ∨ κ.1 a = 14 by omega) with e | e | e | e <;> rw [e]
    · exact ⟨_, rfl, (hKK.2 2 _ rfl).1⟩
    · exact ⟨_, rfl, (hKK.2 3 _ rfl).1⟩
    · exact ⟨_, rfl, (hKK.2 4 _ rfl).1⟩
    · exact ⟨_, rfl, (hKK.2 5 _ rfl).1⟩
  obtain ⟨ty, hty, harr⟩ := ht
  refine W.aald (v := .ref b) (ty := ty) hexec hb hcell (harr (κ.2.1 a) (fun j => va_rf (R a j))) hty (fun q => by cases q) (by show ¬ (i < 0 ∨ (arrV _ _ _).slots.size ≤ _); rw [arrV_size]; exact hin) ?_ rfl rfl dd (h ls H locs hl hM hS)
  show (arrV _ _ _).slots[_]? = _
  rw [arrV_read _ _ hlt, hR]
  rfl
theorem v_alen (hz : Am z cc own nL d) {a : Nat} (hK : 9 ≤ κ.1 a ∧ κ.1 a < 15) (dd : decode cc pc = .ok (.arraylength, 1))
    (h : V z nL k n (pc + 1) lv (.int (nI (κ.2.1 a)) :: st) κ I R J) : V z nL k n pc lv (.ref a :: st) κ I R J := by
  obtain ⟨⟨hexec, hb, -, hown, hts⟩, ⟨hKK, hNN, -⟩, -, -, -⟩ := hz
  intro ls H locs hl hM hS
  have ht : ∃ ty : FieldType, ArrOfT (zs z) ((zg z).2.1 (κ.1 a)) ty := by
    rcases (show κ.1 a = 9 ∨ κ.1 a = 10 ∨ κ.1 a = 11 ∨ κ.1 a = 12 ∨ κ.1 a = 13 ∨ κ.1 a = 14 by omega) with e | e | e | e | e | e <;> rw [e]
    · exact ⟨_, (hKK.2 0 _ rfl).1⟩
    · exact ⟨_, (hKK.2 1 _ rfl).1⟩
    · exact ⟨_, (hKK.2 2 _ rfl).1⟩
    · exact ⟨_, (hKK.2 3 _ rfl).1⟩
    · exact ⟨_, (hKK.2 4 _ rfl).1⟩
    · exact ⟨_, (hKK.2 5 _ rfl).1⟩
  obtain ⟨ty, harr⟩ := ht
  rcases (show (κ.1 a = 9 ∨ κ.1 a = 10) ∨ (11 ≤ κ.1 a ∧ κ.1 a < 15) by omega) with e | e
  · exact W.alen (n := nI (κ.2.1 a)) hexec hb ((hM a).2.2.1 e) (harr (κ.2.1 a) (fun j => .int (I a j))) (by rw [vp_cell_i, arrV_size] <;> rfl) rfl rfl dd (h ls H locs hl hM hS)
  · exact W.alen (n := nI (κ.2.1 a)) hexec hb ((hM a).2.2.2 e) (harr (κ.2.1 a) (fun j => va_rf (R a j))) (by rw [vp_cell_q, arrV_size] <;> rfl) rfl rfl dd (h ls H locs hl hM hS)
end VH
