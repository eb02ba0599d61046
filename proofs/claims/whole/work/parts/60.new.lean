/-! ===== new cells over the memory ===== -/
def nK (κ : Kz) (q c N t : Nat) : Kz := (va_up κ.1 q c, va_up κ.2.1 q N, va_up κ.2.2 q t)
/-- the memory has grown, and only what bears a tag of T has changed; A: where the cells of the tags are -/
def Ex (T : Nat → Prop) (κ : Kz) (I : Iz) (R : Rz) (A : Nat → Nat) (κ1 : Kz) (I1 : Iz) (R1 : Rz) (A1 : Nat → Nat) : Prop := (∀ a, κ.1 a < 15 → κ1.1 a = κ.1 a ∧ κ1.2.1 a = κ.2.1 a ∧ κ1.2.2 a = κ.2.2 a) ∧ (∀ t, ¬ T t → A1 t = A t) ∧ ∀ a, κ.1 a < 15 → ¬ T (κ.2.2 a) → I1 a = I a ∧ R1 a = R a
section
variable {T T2 : Nat → Prop} {κ κ1 κ2 : Kz} {I I1 I2 : Iz} {R R1 R2 : Rz} {A A1 A2 : Nat → Nat}
theorem Ex.rf : Ex T κ I R A κ I R A := ⟨fun _ _ => ⟨rfl, rfl, rfl⟩, fun _ _ => rfl, fun _ _ _ => ⟨rfl, rfl⟩⟩
theorem Ex.wid (h : Ex T κ I R A κ1 I1 R1 A1) (hT : ∀ t, T t → T2 t) : Ex T2 κ I R A κ1 I1 R1 A1 := ⟨h.1, fun t ht => h.2.1 t (fun q => ht (hT t q)), fun a ha ht => h.2.2 a ha (fun q => ht (hT _ q))⟩
theorem Ex.tr (h : Ex T κ I R A κ1 I1 R1 A1) (k : Ex T κ1 I1 R1 A1 κ2 I2 R2 A2) : Ex T κ I R A κ2 I2 R2 A2 := by
  refine ⟨fun a ha => ?_, fun t ht => (k.2.1 t ht).trans (h.2.1 t ht), fun a ha ht => ?_⟩
  · obtain ⟨h1, h2, h3⟩ := h.1 a ha
    obtain ⟨k1, k2, k3⟩ := k.1 a (by rw [h1]; exact ha)
    exact ⟨k1.trans h1, k2.trans h2, k3.trans h3⟩
  · obtain ⟨h1, h2, h3⟩ := h.1 a ha
    obtain ⟨e1, e2⟩ := h.2.2 a ha ht
    obtain ⟨f1, f2⟩ := k.2.2 a (by rw [h1]; exact ha) (by rw [h3]; exact ht)
    exact ⟨f1.trans e1, f2.trans e2⟩
/-- a place of a cell is written whose tag is in T -/
theorem Ex.putR {a f : Nat} {x : Option Nat} (h : Ex T κ I R A κ1 I1 R1 A1) (ha : κ.1 a < 15 → T (κ.2.2 a)) : Ex T κ I R A κ1 I1 (u2 R1 a f x) A1 := ⟨h.1, h.2.1, fun b hb ht => ⟨(h.2.2 b hb ht).1, by rw [u2_ne (fun e => by subst e; exact ht (ha hb))]; exact (h.2.2 b hb ht).2⟩⟩
theorem Ex.putI {a f : Nat} {x : Int32} (h : Ex T κ I R A κ1 I1 R1 A1) (ha : κ.1 a < 15 → T (κ.2.2 a)) : Ex T κ I R A κ1 (u2 I1 a f x) R1 A1 := ⟨h.1, h.2.1, fun b hb ht => ⟨by rw [u2_ne (fun e => by subst e; exact ht (ha hb))]; exact (h.2.2 b hb ht).1, (h.2.2 b hb ht).2⟩⟩
/-- what stands at a tag has stayed -/
theorem Ex.sm {t : Nat} (h : Ex T κ I R A κ1 I1 R1 A1) (hk : κ.1 (A t) < 15) (ho : κ.2.2 (A t) = t) (ht : ¬ T t) : A1 t = A t ∧ κ1.1 (A t) = κ.1 (A t) ∧ κ1.2.1 (A t) = κ.2.1 (A t) ∧ κ1.2.2 (A t) = κ.2.2 (A t) ∧ I1 (A t) = I (A t) ∧ R1 (A t) = R (A t) := by
  obtain ⟨h1, h2, h3⟩ := h.1 _ hk
  obtain ⟨e1, e2⟩ := h.2.2 _ hk (by rw [ho]; exact ht)
  exact ⟨h.2.1 t ht, h1, h2, h3, e1, e2⟩
end
/-- a new cell at q, with the tag t: its kind, its length, all 0 -/
def NewC (κ : Kz) (I : Iz) (R : Rz) (A : Nat → Nat) (κ1 : Kz) (I1 : Iz) (R1 : Rz) (A1 : Nat → Nat) (q t c N : Nat) : Prop := Ex (fun x => x = t) κ I R A κ1 I1 R1 A1 ∧ A1 t = q ∧ κ1.1 q = c ∧ κ1.2.1 q = N ∧ κ1.2.2 q = t ∧ I1 q = (fun _ => 0) ∧ R1 q = (fun _ => none) ∧ ¬ κ.1 q < 15
section
variable {g : Gz} {κ : Kz} {I : Iz} {R : Rz} {J : Jz} {H H1 : Heap} {A : Nat → Nat} {c N t : Nat}
theorem MM.lt {a : Nat} (h : MM g κ I R J H) (hk : κ.1 a < 15) : a < H.size := by
  obtain ⟨-, h1, h2, h3⟩ := h a
  rcases (show κ.1 a < 9 ∨ (κ.1 a = 9 ∨ κ.1 a = 10) ∨ (11 ≤ κ.1 a ∧ κ.1 a < 15) by omega) with e | e | e
  · obtain ⟨cell, q1, -⟩ := h1 e
    exact (Array.getElem?_eq_some_iff.mp q1).1
  · exact (Array.getElem?_eq_some_iff.mp (h2 e)).1
  · exact (Array.getElem?_eq_some_iff.mp (h3 e)).1
theorem newC_of (h : MM g κ I R J H) : NewC κ I R A (nK κ H.size c N t) (va_up I H.size fun _ => 0) (va_up R H.size fun _ => none) (va_up A t H.size) H.size t c N := by
  have hf : ∀ a, κ.1 a < 15 → a ≠ H.size := fun a ha e => by have := h.lt ha; omega
  refine ⟨⟨fun a ha => ⟨vup_n (hf a ha), vup_n (hf a ha), vup_n (hf a ha)⟩, fun x hx => vup_n hx, fun a ha _ => ⟨vup_n (hf a ha), vup_n (hf a ha)⟩⟩, vup_s, vup_s, vup_s, vup_s, vup_s, vup_s, fun q => hf _ q rfl⟩
theorem MM.grow (h : MM g κ I R J H) (hz : H1.size = H.size + 1) (ho : ∀ b, b < H.size → H1[b]? = H[b]?) (hlo : g.2.2 ≤ H.size) (ha : atM g (nK κ H.size c N t) (va_up I H.size fun _ => 0) (va_up R H.size fun _ => none) (va_up J H.size fun _ => 0) H1 H.size) : MM g (nK κ H.size c N t) (va_up I H.size fun _ => 0) (va_up R H.size fun _ => none) (va_up J H.size fun _ => 0) H1 := by
  intro b
  by_cases e : b = H.size
  · subst e; exact ⟨fun _ => hlo, ha⟩
  · have eH : H1[b]? = H[b]? := by
      rcases Nat.lt_or_ge b H.size with h1 | h1
      · exact ho b h1
      · rw [Array.getElem?_eq_none (by omega), Array.getElem?_eq_none (by omega)]
    have e1 : (nK κ H.size c N t).1 b = κ.1 b := vup_n e
    exact ⟨fun k => (h b).1 (by rw [← e1]; exact k), (h b).2.keep eH (vup_n e) (vup_n e) (vup_n e) e1 (vup_n e)⟩
theorem vaS_grow {P : Nat → Prop} {H0 : Heap} {locs : List Loc} (hS : va_S P H0 H locs) (hz : H1.size = H.size + 1) (ho : ∀ b, b < H.size → H1[b]? = H[b]?) : va_S P H0 H1 locs := ⟨Nat.le_trans hS.1 (by omega), fun x h1 h2 => (ho x (Nat.lt_of_lt_of_le h1 hS.1)).trans (hS.2.1 x h1 h2), hS.2.2⟩
theorem fvz0 {s : Nat} {I1 : Iz} {R1 : Rz} {J1 : Jz} {q j : Nat} (h1 : I1 q = fun _ => 0) (h2 : R1 q = fun _ => none) (h3 : J1 q = fun _ => 0) : fvz s (fun _ _ => 0) (fun _ _ => none) (fun _ _ => 0) 0 j = fvz s I1 R1 J1 q j := by
  unfold fvz
  rw [h1, h2, h3]
end
section
variable {z : Zz} {cc : ByteArray} {own : String} {nL d k n pc : Nat} {lv : List (Nat × Value)} {st : List Value} {κ : Kz} {I : Iz} {R : Rz} {J : Jz}
theorem v_objInit (hz : Am z cc own nL d) {idx a : Nat} (h1 : Cond.methodLink own idx Lib.objectInit ∈ tg) (h2 : Cond.instanceMethod Lib.objectInit ∈ tg) (h3 : Cond.code Lib.objectInit ⟨#[0xb1]⟩ 1 none ∈ tg) (hd : 1 ≤ d) (hrs : (st.map fun v => v.category).sum ≤ 8) (dd : decode cc pc = .ok (.invokespecial idx, 3))
    (h : V z nL k n (pc + 3) lv st κ I R J) : V z nL k n pc lv (.ref a :: st) κ I R J := by
  obtain ⟨⟨hexec, hb, hml, hown, hts⟩, -, -, hd1, hd2⟩ := hz
  intro ls H locs hl hM hS
  exact W.objInit hexec hb hown (hts _ h1) (hts _ h2) (hts _ h3) rfl (hl.1.trans hml.symm) rfl dd (by omega) (by show 2 * 0 + _ + 12 ≤ _; omega) (h ls H locs hl hM hS)
theorem v_new (hz : Am z cc own nL d) {idx c N : Nat} {C : String} {T : u_T} {ty : Nat → FieldType} (cl : CLz c C T N) (hty : ∀ k, k < N → parseFieldDescriptor (T k).2.2.1 = some (ty k)) (hdf : ∀ j, j < N → defaultValue (ty j) = fvz (ftz c j) (fun _ _ => 0) (fun _ _ => none) (fun _ _ => 0) 0 j) (h1 : Cond.classLink own idx C ∈ tg) (h2 : Cond.instantiable C N ∈ tg) (h3 : Cond.initialized C ∈ tg) (t : Nat) (A : Nat → Nat) (hroom : k + 1 ≤ (zR z).cells ∧ n + N ≤ (zR z).slots) (dd : decode cc pc = .ok (.new idx, 3))
    (h : ∀ q κ1 I1 R1 J1 A1, NewC κ I R A κ1 I1 R1 A1 q t c 0 → V z nL (k + 1) (n + N) (pc + 3) lv (.ref q :: st) κ1 I1 R1 J1) : V z nL k n pc lv st κ I R J := by
  obtain ⟨hc, hN, hc9, hin, -, hnm, hC⟩ := cl
  obtain ⟨⟨hexec, hb, -, hown, hts⟩, ⟨hKK, hNN, hAO⟩, hlo, -, -⟩ := hz
  intro ls H locs hl hM hS
  have hKn := hKK.1 c _ hc
  refine W.newcK hexec hb hown (hts _ h1) (hts _ h2) (hts _ h3) rfl dd hroom.1 hroom.2 hKn.2.1 rfl fun H1 kC hkC e1 z1 o1 => ?_
  have ek : (nK κ H.size c 0 t).1 H.size = c := vup_s
  refine h H.size _ _ _ _ _ (newC_of (A := A) hM) ls H1 locs hl (hM.grow z1 o1 (Nat.le_trans hlo hS.1) ⟨fun _ => ?_, fun q => ?_, fun q => ?_⟩) (vaS_grow hS z1 o1)
  · rw [ek, ← hN]
    exact (u_born ty hts hin hKn hkC e1 hty).to (fun j hj => (hdf j hj).trans (fvz0 vup_s vup_s vup_s))
  · rw [ek] at q; omega
  · rw [ek] at q; omega
theorem v_newI (hz : Am z cc own nL d) {m : Nat} (t : Nat) (A : Nat → Nat) (hm : m ≤ 100000000) (hroom : k + 1 ≤ (zR z).cells ∧ n + m ≤ (zR z).slots) (dd : decode cc pc = .ok (.newarray .int, 2))
    (h : ∀ q κ1 I1 R1 J1 A1, NewC κ I R A κ1 I1 R1 A1 q t 9 m → V z nL (k + 1) (n + m) (pc + 2) lv (.ref q :: st) κ1 I1 R1 J1) : V z nL k n pc lv (.int (nI m) :: st) κ I R J := by
  obtain ⟨⟨hexec, hb, -, hown, hts⟩, ⟨hKK, hNN, hAO⟩, hlo, -, -⟩ := hz
  intro ls H locs hl hM hS
  have hcl : (nI m).toNatClampNeg = m := nI_clamp (by omega)
  have harr : (Cond.arrayClass FieldType.int).before (za z) (zs z) = true := hts _ (tg_mem 117 (by decide +kernel) rfl)
  refine va_newaK (atype := .int) hexec hb harr rfl dd rfl (fun q => absurd (nI_pos' (show m < 2147483648 by omega)) (Int32.not_le.mpr q)) hcl (by show m * 4 ≤ 536870912; omega) hroom.1 hroom.2 rfl fun H1 cA e1 z1 o1 hAr hNm => ?_
  have hcA : cA = (zg z).2.1 9 := Option.some.inj (hNm.symm.trans (show (zs z).vm.findClass ("[" ++ FieldType.int.toString) = some ((zg z).2.1 9) from (hKK.2 0 _ rfl).2))
  have ek : (nK κ H.size 9 m t).1 H.size = 9 := vup_s
  refine h H.size _ _ _ _ _ (newC_of (A := A) hM) ls H1 locs hl (hM.grow z1 o1 (Nat.le_trans hlo hS.1) ⟨fun q => ?_, fun _ => ?_, fun q => ?_⟩) (vaS_grow hS z1 o1)
  · rw [ek] at q; omega
  · rw [ek, e1, hcA, show (nK κ H.size 9 m t).2.1 H.size = m from vup_s, vup_s]
    rfl
  · rw [ek] at q; omega
theorem v_newZ (hz : Am z cc own nL d) {m : Nat} (t : Nat) (A : Nat → Nat) (hm : m ≤ 100000000) (hroom : k + 1 ≤ (zR z).cells ∧ n + m ≤ (zR z).slots) (dd : decode cc pc = .ok (.newarray .boolean, 2))
    (h : ∀ q κ1 I1 R1 J1 A1, NewC κ I R A κ1 I1 R1 A1 q t 10 m → V z nL (k + 1) (n + m) (pc + 2) lv (.ref q :: st) κ1 I1 R1 J1) : V z nL k n pc lv (.int (nI m) :: st) κ I R J := by
  obtain ⟨⟨hexec, hb, -, hown, hts⟩, ⟨hKK, hNN, hAO⟩, hlo, -, -⟩ := hz
  intro ls H locs hl hM hS
  have hcl : (nI m).toNatClampNeg = m := nI_clamp (by omega)
  have harr : (Cond.arrayClass FieldType.boolean).before (za z) (zs z) = true := hts _ (tg_mem 302 (by decide +kernel) rfl)
  refine va_newaK (atype := .boolean) hexec hb harr rfl dd rfl (fun q => absurd (nI_pos' (show m < 2147483648 by omega)) (Int32.not_le.mpr q)) hcl (by show m * 1 ≤ 536870912; omega) hroom.1 hroom.2 rfl fun H1 cA e1 z1 o1 hAr hNm => ?_
  have hcA : cA = (zg z).2.1 10 := Option.some.inj (hNm.symm.trans (show (zs z).vm.findClass ("[" ++ FieldType.boolean.toString) = some ((zg z).2.1 10) from (hKK.2 1 _ rfl).2))
  have ek : (nK κ H.size 10 m t).1 H.size = 10 := vup_s
  refine h H.size _ _ _ _ _ (newC_of (A := A) hM) ls H1 locs hl (hM.grow z1 o1 (Nat.le_trans hlo hS.1) ⟨fun q => ?_, fun _ => ?_, fun q => ?_⟩) (vaS_grow hS z1 o1)
  · rw [ek] at q; omega
  · rw [ek, e1, hcA, show (nK κ H.size 10 m t).2.1 H.size = m from vup_s, vup_s]
    rfl
  · rw [ek] at q; omega
theorem v_anew (hz : Am z cc own nL d) {idx m t0 : Nat} {C : String} (t : Nat) (A : Nat → Nat) (h1 : Cond.classLink own idx C ∈ tg) (hao : ∀ g U, KKz g U → va_AO C U) (ht : (tyz (zg z))[t0]? = some ((zg z).2.1 (t0 + 9), .object C)) (h11 : 11 ≤ t0 + 9 ∧ t0 + 9 < 15) (hm : m ≤ 100000000) (hroom : k + 1 ≤ (zR z).cells ∧ n + m ≤ (zR z).slots) (dd : decode cc pc = .ok (.anewarray idx, 3))
    (h : ∀ q κ1 I1 R1 J1 A1, NewC κ I R A κ1 I1 R1 A1 q t (t0 + 9) m → V z nL (k + 1) (n + m) (pc + 3) lv (.ref q :: st) κ1 I1 R1 J1) : V z nL k n pc lv (.int (nI m) :: st) κ I R J := by
  obtain ⟨⟨hexec, hb, -, hown, hts⟩, hKZ, hlo, -, -⟩ := hz
  obtain ⟨hKK, hNN, hAO⟩ := id hKZ
  intro ls H locs hl hM hS
  have hcl : (nI m).toNatClampNeg = m := nI_clamp (by omega)
  refine W.anew hexec hb hown (hts _ h1) (va_AO.use (hao _ _ hKZ)) rfl dd rfl (fun q => absurd (nI_pos' (show m < 2147483648 by omega)) (Int32.not_le.mpr q)) (by rw [hcl]; omega) hroom.1 (by rw [hcl]; exact hroom.2) fun cA kA comp f1 f2 f3 f4 => ?_
  rw [hcl]
  generalize hH1 : H.push ({ cls := cA, slots := Array.replicate m .null, vm := .none } : Cell) = H1
  have z1 : H1.size = H.size + 1 := by rw [← hH1, Array.size_push]
  have e1 : H1[H.size]? = some (arrV cA m (fun _ => .null)) := by rw [← hH1, Array.getElem?_push_size, ← arrV_new]
  have o1 : ∀ q : Nat, q < H.size → H1[q]? = H[q]? := fun q hq => by rw [← hH1, Array.getElem?_push, if_neg (Nat.ne_of_lt hq)]
  obtain ⟨kA', comp', -, -, -, g4⟩ := (hKK.2 t0 _ ht).2
  have hcA : cA = (zg z).2.1 (t0 + 9) := Option.some.inj (f1.symm.trans g4)
  have ek : (nK κ H.size (t0 + 9) m t).1 H.size = t0 + 9 := vup_s
  refine h H.size _ _ _ _ _ (newC_of (A := A) hM) ls H1 locs hl (hM.grow z1 o1 (Nat.le_trans hlo hS.1) ⟨fun q => ?_, fun q => ?_, fun _ => ?_⟩) (vaS_grow hS z1 o1)
  · rw [ek] at q; omega
  · rw [ek] at q; omega
  · rw [ek, e1, hcA, show (nK κ H.size (t0 + 9) m t).2.1 H.size = m from vup_s, vup_s]
    rfl
theorem hval_R {c f a : Nat} {x : Nat} (ht : ftz c f = 1) (j : Nat) : updV (fun k => fvz (ftz c k) I R J a k) f (.ref x) j = fvz (ftz c j) I (u2 R a f (some x)) J a j := by
  by_cases e : j = f
  · subst e
    simp only [updV, if_true, ht]
    show Value.ref x = va_rf (u2 R a j (some x) a j)
    rw [u2_eq]
    rfl
  · simp only [updV, e, if_false]
    unfold fvz
    split <;> simp [u2, e]
/-- a reference into a field of the object that is being made -/
theorem v_putR {c f N : Nat} {T : u_T} (hz : Am z cc own nL d) {y : MethodName} {k9 n9 : Nat} {P : Postz} (hr : Rt z y none k9 n9 P) (hy : y.name = "<init>") {idx : Nat} {ty : FieldType} (cl : CLz c own T N) (hf : f < N) (hft : ftz c f = 1) (hd : parseFieldDescriptor (T f).2.2.1 = some ty) (hfin : (T f).2.2.2 = true) (hlk : Cond.fieldLink own idx own (T f).2.1 (T f).2.2.1 ∈ tg) {a v : Nat} (hK : κ.1 a = c) (hn : narrow ty (.ref v) = .ref v) (hfit : fits ty (.ref v) = true) (dd : decode cc pc = .ok (.putfield idx, 3))
    (h : V z nL k n (pc + 3) lv st κ I (u2 R a f (some v)) J) : V z nL k n pc lv (.ref v :: .ref a :: st) κ I R J := by
  obtain ⟨hc, hN, hc9, hin, ⟨ty0, hty⟩, hnm, hC⟩ := cl
  subst hN
  obtain ⟨⟨hexec, hb, -, hown, hts⟩, ⟨hKK, hNN, -⟩, -, -, -⟩ := hz
  intro ls H locs hl hM hS
  have hlo : (zg z).2.2 ≤ a := (hM a).1 (by rw [hK]; omega)
  have hob := (hM a).2.1 (by rw [hK]; exact hc9)
  rw [hK] at hob
  obtain ⟨cell, q1, q2, q3, q4⟩ := hob
  have hap := va_apart (own := own) hts hin ty0 hty hnm hKK hc
  obtain ⟨hSl, hfc, kC, hkC, hkind⟩ := hKK.1 c _ hc
  obtain ⟨cf, kf, fi, fd, hi, hsl⟩ := hSl f hf
  have hlay := hts _ (hin _ (u_in_lay hf))
  unfold u_lay at hlay
  rw [if_pos hfin] at hlay
  have hst := (u_facts hfc hkC (u_lays hts hin hf) hi).1
  have hcf : (zm z).cls = cf := by
    obtain ⟨_, _, c', _, _, _, -, -, hf', -, -, -, hown2, -⟩ := Cond.laysFinal_spec hlay
    have e1 : c' = cf := by have := hi.symm.trans hf'; simp at this; exact this.1.symm
    rw [hC f hf] at hown2
    rw [← e1]; exact Option.some.inj (hown.symm.trans hown2)
  have h6 := u_fits hfc hkC hkind (Or.inr hlay) hi hd hn hfit
  have hi' : (zs z).fieldFound? own (T f).2.1 (T f).2.2.1 = some (cf, kf, fi, fd) := by
    have := hi
    rw [show ((own, T, nfz c) : vw_C).2.1 = T from rfl, hC f hf] at this
    exact this
  have hnm2 : (zt z).name = "<init>" := hr.2.2.2.trans hy
  refine W.putFinK hexec hb hown (hts _ hlk) hi' hst hcf hnm2 (by rw [q2]; exact h6) q1 q3 (by rw [hsl]; exact k2_hasslot (q4 f hf)) rfl rfl dd fun H' e1 e2 e3 => ?_
  rw [hsl] at e1
  refine h ls H' _ hl (hM.one (fun _ _ => rfl) (fun _ q => u2_ne q) (fun _ _ => rfl) e3 ⟨fun _ => ?_, fun q => ?_, fun q => ?_⟩) (hS.put e2 e3 hlo)
  · rw [hK]
    exact t_OB.to (V := updV (fun k => fvz (ftz c k) I R J a k) f (.ref v)) ⟨_, e1, q2, q3, t_set q4 hap hf (.ref v)⟩ (fun j _ => hval_R hft j)
  · rw [hK] at q; omega
  · rw [hK] at q; omega
/-- a constructor is called -/
theorem v_callI0 {P : Postz} (hz : Am z cc own nL d) {idx na mc ms : Nat} {M : Mz} (ml : GWz M na ∧ Cond.instanceMethod M.1 ∈ tg ∧ LKz own idx M) (hy : M.1.name = "<init>") (hrt : M.2.2.2.1 = none) {b : Nat} {As rest : List Value} (hc : Ct (zl z) M mc ms (zg z) (.ref b :: As) κ I R J P) (hna : As.length = na)
    (hst : st = As.reverse ++ .ref b :: rest) (hrs : (rest.map fun v => v.category).sum ≤ 8) (hd : M.2.2.2.2 + 1 ≤ d ∧ M.2.2.1 ≤ 21) (hroom : k + mc ≤ (zR z).cells ∧ n + ms ≤ (zR z).slots) (dd : decode cc pc = .ok (.invokespecial idx, 3))
    (h : ∀ v κ1 I1 R1 J1, P v κ1 I1 R1 J1 → V z nL (k + mc) (n + ms) (pc + 3) lv (v.toList ++ rest) κ1 I1 R1 J1) : V z nL k n pc lv st κ I R J := by
  obtain ⟨hgw, hin, hlk⟩ := ml
  obtain ⟨⟨hexec, hb, hml, hown, hts⟩, hKK, hlo, hd1, hd2⟩ := hz
  intro ls H locs hl hM hS
  have hpre : ∀ U : State, U.heap = H → (zs z).WarmedH U.vm → Pz (zg z) (.ref b :: As) κ I R J (Value.ref b :: As).toArray U := fun U hU hW => ⟨rfl, by rw [hU]; exact hM, hKK.warm hW, by rw [hU]; exact Nat.le_trans hlo hS.1⟩
  have hloc : 8 + (M.2.2.1 + 11) + 40 * M.2.2.2.2 ≤ (zR z).locals := by omega
  have hfr : M.2.2.2.2 + 1 ≤ (zR z).frames := by omega
  obtain ⟨M1, M2, M3, M4, M5⟩ := M
  have hrt : M4 = none := hrt
  subst hrt
  rcases hlk with hlk | ⟨host, hlk⟩
  · exact call_go (P := P) rfl (va_runI (As := As) (rest := rest) ⟨hexec, hb, hml, hown, hts⟩ hc ⟨callB_of na hts (gw_good hgw) rfl rfl rfl (hts _ hgw.2.1) (hts _ hlk) hgw.2.2 ⟨hfr, hloc⟩, hy, hts _ hin⟩ ⟨pz_blind, hpre⟩ rfl hna hl.1 hst (lv_room hrs) dd hroom) hl hS h
  · exact call_go (P := P) rfl (va_runIN (As := As) (rest := rest) ⟨hexec, hb, hml, hown, hts⟩ hc ⟨va_cnB na hts (gw_good hgw) rfl rfl rfl (hKK.2.1 _ hlk) (hts _ hgw.2.1) hgw.2.2 ⟨hfr, hloc⟩, hy, hts _ hin⟩ ⟨pz_blind, hpre⟩ rfl hna hl.1 hst (lv_room hrs) dd hroom) hl hS h
end
