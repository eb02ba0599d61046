/-! ===== contracts over the memory; returns and calls ===== -/
abbrev Mz : Type := MethodName × ByteArray × Nat × Option FieldType × Nat
abbrev Postz : Type := Option Value → Kz → Iz → Rz → Jz → Prop
def Pz (g : Gz) (av : List Value) (κ : Kz) (I : Iz) (R : Rz) (J : Jz) : Array Value → State → Prop := fun a U => a = av.toArray ∧ MM g κ I R J U.heap ∧ KKz g U ∧ g.2.2 ≤ U.heap.size
def Qz (g : Gz) (P : Postz) : Array Value → State → Outcome → State → Prop := fun _ st o t => (∃ (v : Option Value) (κ : Kz) (I : Iz) (R : Rz) (J : Jz), o = .returned v ∧ P v κ I R J ∧ MM g κ I R J t.heap) ∧ va_F (fun q => g.2.2 ≤ q) st t
def Ct (l : Launch) (M : Mz) (mc ms : Nat) (g : Gz) (av : List Value) (κ : Kz) (I : Iz) (R : Rz) (J : Jz) (P : Postz) : Prop :=
  Met l M.1 (.code M.1 M.2.1 M.2.2.1 M.2.2.2.1 :: tg) { frames := M.2.2.2.2, cells := mc, slots := ms, locals := 40 * M.2.2.2.2 } (Pz g av κ I R J) (Qz g P) mc ms (fun q => g.2.2 ≤ q)
def Rt (z : Zz) (y : MethodName) (ret : Option FieldType) (mc ms : Nat) (P : Postz) : Prop :=
  zq z = MQ (zb z) (Qz (zg z) P) (za z) (zs z) mc ms (fun q => (zg z).2.2 ≤ q) ∧ (zt z).sig.returnType = ret ∧ (zt z).locks = false ∧ (zt z).name = y.name
theorem ct_of {l : Launch} {M : Mz} {mc ms : Nat} {g : Gz} {av : List Value} {κ : Kz} {I : Iz} {R : Rz} {J : Jz} {P : Postz} (hpl : plainName M.1.cls = true) (hlen : (lg_sl av).length ≤ M.2.2.1)
    (body : ∀ z : Zz, Am z M.2.1 M.1.cls M.2.2.1 M.2.2.2.2 → Rt z M.1 M.2.2.2.1 mc ms P → (zR z).cells = mc → (zR z).slots = ms → V z M.2.2.1 0 0 0 (lv_args 0 av) [] κ I R J) : Ct l M mc ms g av κ I R J P := by
  refine Met.ofW (cc := M.2.1) (maxL := M.2.2.1) (ret := M.2.2.2.1) hpl rfl ?_
  intro p e s m args below meth c s₁ B hml hv
  obtain ⟨rfl, hM, hK, hlo⟩ := hv
  have hts := atoms_spec (ws := .code M.1 M.2.1 M.2.2.1 M.2.2.2.1 :: tg) B.pre
  have hl := lv_entry av (n := M.2.2.1) hlen
  rw [lg_entry_eq]
  exact body (p, l, e, _, s, m, av.toArray, below, meth, c, _, g) ⟨⟨B.exec, B.bytes, hml, findClass_of_methodNamed B.named, fun w hw => hts w (List.mem_cons_of_mem _ hw)⟩, hK, hlo, Nat.le_refl _, Nat.le_refl _⟩ ⟨rfl, B.returns, B.notSynchronized, (name_of_methodNamed B.named B.method).1⟩ rfl rfl _ _ _ (lvh.of hl) hM va_S.rf
/-! answers that leave the kinds, the references and the longs as they were -/
def Si (κ : Kz) (R : Rz) (J : Jz) (p : Int32 → Iz → Prop) : Postz := fun v κ' I' R' J' => κ' = κ ∧ R' = R ∧ J' = J ∧ ∃ r, v = some (.int r) ∧ p r I'
def Sv (κ : Kz) (R : Rz) (J : Jz) (p : Iz → Prop) : Postz := fun v κ' I' R' J' => κ' = κ ∧ R' = R ∧ J' = J ∧ v = none ∧ p I'
def Sl (κ : Kz) (R : Rz) (J : Jz) (p : Int64 → Iz → Prop) : Postz := fun v κ' I' R' J' => κ' = κ ∧ R' = R ∧ J' = J ∧ ∃ r, v = some (.long r) ∧ p r I'
section VC
variable {z : Zz} {cc : ByteArray} {own : String} {nL d k n pc : Nat} {lv : List (Nat × Value)} {st : List Value} {κ : Kz} {I : Iz} {R : Rz} {J : Jz} {y : MethodName} {P : Postz}
theorem v_widen {k1 n1 : Nat} (h1 : k ≤ k1) (h2 : n ≤ n1) (h : V z nL k1 n1 pc lv st κ I R J) : V z nL k n pc lv st κ I R J := fun ls H locs hl hM hS => W.widen h1 h2 (h ls H locs hl hM hS)
theorem v_iret0 (hz : Am z cc own nL d) (hr : Rt z y (some .int) k n P) {v : Int32} (dd : decode cc pc = .ok (.ireturn, 1)) (hp : P (some (.int v)) κ I R J) : V z nL k n pc lv [.int v] κ I R J := by
  intro ls H locs hl hM hS
  obtain ⟨hq, hret, hlk, -⟩ := hr
  rw [hq]
  exact W.iret hz.1.1 hz.1.2.1 hret (fun t ht hW => ⟨⟨_, κ, I, R, J, rfl, hp, by rw [ht]; exact hM⟩, hS.F ht⟩) hS.2.2 dd hlk
theorem v_zret0 (hz : Am z cc own nL d) (hr : Rt z y (some .boolean) k n P) {v : Int32} (dd : decode cc pc = .ok (.ireturn, 1)) (hv : v = 0 ∨ v = 1) (hp : P (some (.int v)) κ I R J) : V z nL k n pc lv [.int v] κ I R J := by
  intro ls H locs hl hM hS
  obtain ⟨hq, hret, hlk, -⟩ := hr
  rw [hq]
  exact W.zret hz.1.1 hz.1.2.1 hret (by rcases hv with rfl | rfl <;> rfl) (fun t ht hW => ⟨⟨_, κ, I, R, J, rfl, hp, by rw [ht]; exact hM⟩, hS.F ht⟩) hS.2.2 dd hlk
theorem v_lret0 (hz : Am z cc own nL d) (hr : Rt z y (some .long) k n P) {v : Int64} (dd : decode cc pc = .ok (.lreturn, 1)) (hp : P (some (.long v)) κ I R J) : V z nL k n pc lv [.long v] κ I R J := by
  intro ls H locs hl hM hS
  obtain ⟨hq, hret, hlk, -⟩ := hr
  rw [hq]
  exact W.lret hz.1.1 hz.1.2.1 hret (fun t ht hW => ⟨⟨_, κ, I, R, J, rfl, hp, by rw [ht]; exact hM⟩, hS.F ht⟩) hS.2.2 dd hlk
theorem v_vret0 (hz : Am z cc own nL d) (hr : Rt z y none k n P) (dd : decode cc pc = .ok (.return_, 1)) (hp : P none κ I R J) : V z nL k n pc lv [] κ I R J := by
  intro ls H locs hl hM hS
  obtain ⟨hq, hret, hlk, -⟩ := hr
  rw [hq]
  exact W.vret hz.1.1 hz.1.2.1 hret (fun t ht hW => ⟨⟨_, κ, I, R, J, rfl, hp, by rw [ht]; exact hM⟩, hS.F ht⟩) hS.2.2 dd hlk
theorem v_iret {p : Int32 → Iz → Prop} (hz : Am z cc own nL d) (hr : Rt z y (some .int) k n (Si κ R J p)) {v : Int32} (dd : decode cc pc = .ok (.ireturn, 1)) (hp : p v I) : V z nL k n pc lv [.int v] κ I R J := v_iret0 hz hr dd ⟨rfl, rfl, rfl, _, rfl, hp⟩
theorem v_zret {p : Int32 → Iz → Prop} (hz : Am z cc own nL d) (hr : Rt z y (some .boolean) k n (Si κ R J p)) {v : Int32} (dd : decode cc pc = .ok (.ireturn, 1)) (hv : v = 0 ∨ v = 1) (hp : p v I) : V z nL k n pc lv [.int v] κ I R J := v_zret0 hz hr dd hv ⟨rfl, rfl, rfl, _, rfl, hp⟩
theorem v_lret {p : Int64 → Iz → Prop} (hz : Am z cc own nL d) (hr : Rt z y (some .long) k n (Sl κ R J p)) {v : Int64} (dd : decode cc pc = .ok (.lreturn, 1)) (hp : p v I) : V z nL k n pc lv [.long v] κ I R J := v_lret0 hz hr dd ⟨rfl, rfl, rfl, _, rfl, hp⟩
theorem v_vret {p : Iz → Prop} (hz : Am z cc own nL d) (hr : Rt z y none k n (Sv κ R J p)) (dd : decode cc pc = .ok (.return_, 1)) (hp : p I) : V z nL k n pc lv [] κ I R J := v_vret0 hz hr dd ⟨rfl, rfl, rfl, rfl, hp⟩
def GWz (M : Mz) (na : Nat) : Prop :=
  Cond.code M.1 M.2.1 M.2.2.1 M.2.2.2.1 ∈ tg ∧ Cond.initialized M.1.cls ∈ tg ∧ (M.1.cls ≠ "java/lang/invoke/MethodHandle" ∧ M.1.cls ≠ "java/lang/invoke/VarHandle" ∧ (parseMethodDescriptor M.1.desc).map (fun d => d.parameters.length) = some na)
def LKz (own : String) (idx : Nat) (M : Mz) : Prop := Cond.methodLink own idx M.1 ∈ tg ∨ ∃ host, Cond.methodLinkNest own idx M.1 host ∈ tn
def MLv (own : String) (idx : Nat) (M : Mz) (c na : Nat) : Prop := (∃ r : vw_C, vwCl[c]? = some r ∧ r.1 = M.1.cls) ∧ c < 9 ∧ GWz M na ∧ Cond.instanceMethod M.1 ∈ tg ∧ Cond.selects M.1.cls M.1 M.1 ∈ tg ∧ LKz own idx M
def MLs (own : String) (idx : Nat) (M : Mz) (na : Nat) : Prop := GWz M na ∧ Cond.static M.1 ∈ tg ∧ LKz own idx M
theorem gw_good {M : Mz} {na : Nat} (h : GWz M na) : GoodIn tg (.code M.1 M.2.1 M.2.2.1 M.2.2.2.1 :: tg) := fun w hw => by
  have hm : w ∈ tg := by
    rcases List.mem_cons.mp hw with e | e
    · rw [e]; exact h.1
    · exact e
  exact ⟨hm, tg_good hm⟩
theorem pz_blind {g : Gz} {av : List Value} : FrameBlind (Pz g av κ I R J) := fun a U f mk q => by
  obtain ⟨q0, q1, q2, q3⟩ := q
  exact ⟨q0, q1, KKz.same (s := U) (U := U.calling f mk a) rfl q2, q3⟩
theorem call_go {mc ms : Nat} {rest : List Value} {g0 : JFrame} {ls : Array Slot} {H : Heap} {locs : List Loc} {a0 : Array Value} (hg0 : g0 = F0 (zm z) pc ls st)
    (hr : va_Run (zp z) (zl z) (ze z) (zR z) (zs z) (zm z) (za z) (zb z) (zt z) (zc z) H locs k n mc ms g0 rest (Qz (zg z) P a0) (fun q => (zg z).2.2 ≤ q)) (hl : lvh ls nL lv) (hS : va_S (fun q => (zg z).2.2 ≤ q) (zs z).heap H locs)
    (h : ∀ v κ1 I1 R1 J1, P v κ1 I1 R1 J1 → V z nL (k + mc) (n + ms) (pc + 3) lv (v.toList ++ rest) κ1 I1 R1 J1) :
    W (zp z) (zl z) (ze z) (zR z) (zs z) (zm z) (za z) (zb z) (zt z) (zc z) H locs k n (zq z) (F0 (zm z) pc ls st) := by
  subst hg0
  intro T hT X
  obtain ⟨v, st₀, t, T', L, h0, X', hL, e1, e2, ⟨⟨v', κ1, I1, R1, J1, hv, hp, hM1⟩, hz1, hk1⟩, stp⟩ := hr T hT X
  cases hv
  rw [h0] at hz1 hk1
  obtain ⟨t2, a1, b1⟩ := h v κ1 I1 R1 J1 hp ls T'.heap (locs ++ L) hl (by rw [e1]; exact hM1) ⟨Nat.le_trans hS.1 (by rw [e1]; exact hz1), fun q h1 h2 => by rw [e1, hk1 q (Nat.lt_of_lt_of_le h1 hS.1) h2]; exact hS.2.1 q h1 h2, fun q hq => by
      rcases List.mem_append.mp hq with h | h
      · exact hS.2.2 q h
      · exact hL q h⟩ T' rfl X'
  exact ⟨t2, stp t2 a1, b1⟩
theorem v_callV0 (hz : Am z cc own nL d) {idx c na mc ms : Nat} {M : Mz} (ml : MLv own idx M c na) {b : Nat} {As rest : List Value} (hc : Ct (zl z) M mc ms (zg z) (.ref b :: As) κ I R J P) (hK : κ.1 b = c) (hna : As.length = na)
    (hst : st = As.reverse ++ .ref b :: rest) (hrs : (rest.map fun v => v.category).sum ≤ 8) (hd : M.2.2.2.2 + 1 ≤ d ∧ M.2.2.1 ≤ 21) (hroom : k + mc ≤ (zR z).cells ∧ n + ms ≤ (zR z).slots) (dd : decode cc pc = .ok (.invokevirtual idx, 3))
    (h : ∀ v κ1 I1 R1 J1, P v κ1 I1 R1 J1 → V z nL (k + mc) (n + ms) (pc + 3) lv (v.toList ++ rest) κ1 I1 R1 J1) : V z nL k n pc lv st κ I R J := by
  obtain ⟨⟨r, hr1, hr2⟩, hc9, hgw, hin, hsel, hlk⟩ := ml
  have hz0 := hz
  obtain ⟨⟨hexec, hb, hml, hown, hts⟩, hKK, hlo, hd1, hd2⟩ := hz
  intro ls H locs hl hM hS
  have hob := (hM b).2.1 (by rw [hK]; exact hc9)
  obtain ⟨cell, q1, q2, q3, -⟩ := hob
  have hrec : ∃ cellB : Cell, H[b]? = some cellB ∧ cellB.vm.isStatics = false ∧ (zs z).vm.findClass M.1.cls = some cellB.cls :=
    ⟨cell, q1, by rw [q3]; rfl, by rw [q2, hK, ← hr2]; exact (hKK.1.1 c r hr1).2.1⟩
  have hpre : ∀ U : State, U.heap = H → (zs z).WarmedH U.vm → Pz (zg z) (.ref b :: As) κ I R J (Value.ref b :: As).toArray U := fun U hU hW => ⟨rfl, by rw [hU]; exact hM, hKK.warm hW, by rw [hU]; exact Nat.le_trans hlo hS.1⟩
  have hloc : 8 + (M.2.2.1 + 11) + 40 * M.2.2.2.2 ≤ (zR z).locals := by omega
  have hfr : M.2.2.2.2 + 1 ≤ (zR z).frames := by omega
  rcases hlk with hlk | ⟨host, hlk⟩
  · exact call_go (P := P) rfl (va_runV (C := M.1.cls) (As := As) (rest := rest) ⟨hexec, hb, hml, hown, hts⟩ hc ⟨callB_of na hts (gw_good hgw) rfl rfl rfl (hts _ hgw.2.1) (hts _ hlk) hgw.2.2 ⟨hfr, hloc⟩, hts _ hin, hts _ hsel⟩ ⟨pz_blind, hrec, hpre⟩ rfl hna hl.1 hst (lv_room hrs) dd hroom) hl hS h
  · exact call_go (P := P) rfl (va_runVN (C := M.1.cls) (As := As) (rest := rest) ⟨hexec, hb, hml, hown, hts⟩ hc ⟨va_cnB na hts (gw_good hgw) rfl rfl rfl (hKK.2.1 _ hlk) (hts _ hgw.2.1) hgw.2.2 ⟨hfr, hloc⟩, hts _ hin, hts _ hsel⟩ ⟨pz_blind, hrec, hpre⟩ rfl hna hl.1 hst (lv_room hrs) dd hroom) hl hS h
theorem v_callS0 (hz : Am z cc own nL d) {idx na mc ms : Nat} {M : Mz} (ml : MLs own idx M na) {As rest : List Value} (hc : Ct (zl z) M mc ms (zg z) As κ I R J P) (hna : As.length = na)
    (hst : st = As.reverse ++ rest) (hrs : (rest.map fun v => v.category).sum ≤ 8) (hd : M.2.2.2.2 + 1 ≤ d ∧ M.2.2.1 ≤ 21) (hroom : k + mc ≤ (zR z).cells ∧ n + ms ≤ (zR z).slots) (dd : decode cc pc = .ok (.invokestatic idx, 3))
    (h : ∀ v κ1 I1 R1 J1, P v κ1 I1 R1 J1 → V z nL (k + mc) (n + ms) (pc + 3) lv (v.toList ++ rest) κ1 I1 R1 J1) : V z nL k n pc lv st κ I R J := by
  obtain ⟨hgw, hstt, hlk⟩ := ml
  obtain ⟨⟨hexec, hb, hml, hown, hts⟩, hKK, hlo, hd1, hd2⟩ := hz
  intro ls H locs hl hM hS
  have hpre : ∀ U : State, U.heap = H → (zs z).WarmedH U.vm → Pz (zg z) As κ I R J As.toArray U := fun U hU hW => ⟨rfl, by rw [hU]; exact hM, hKK.warm hW, by rw [hU]; exact Nat.le_trans hlo hS.1⟩
  have hloc : 8 + (M.2.2.1 + 11) + 40 * M.2.2.2.2 ≤ (zR z).locals := by omega
  have hfr : M.2.2.2.2 + 1 ≤ (zR z).frames := by omega
  rcases hlk with hlk | ⟨host, hlk⟩
  · exact call_go (P := P) rfl (va_runS (As := As) (rest := rest) ⟨hexec, hb, hml, hown, hts⟩ hc ⟨callB_of na hts (gw_good hgw) rfl rfl rfl (hts _ hgw.2.1) (hts _ hlk) hgw.2.2 ⟨hfr, hloc⟩, hts _ hstt⟩ ⟨pz_blind, hpre⟩ rfl hna hl.1 hst (lv_room hrs) dd hroom) hl hS h
  · exact call_go (P := P) rfl (va_runSN (As := As) (rest := rest) ⟨hexec, hb, hml, hown, hts⟩ hc ⟨va_cnB na hts (gw_good hgw) rfl rfl rfl (hKK.2.1 _ hlk) (hts _ hgw.2.1) hgw.2.2 ⟨hfr, hloc⟩, hts _ hstt, trivial⟩ ⟨pz_blind, hpre⟩ rfl hna hl.1 hst (lv_room hrs) dd hroom) hl hS h
/-! the calls that leave kinds, references and longs -/
theorem v_callVi {p : Int32 → Iz → Prop} (hz : Am z cc own nL d) {idx c na : Nat} {M : Mz} (ml : MLv own idx M c na) {b : Nat} {As rest : List Value} (hc : Ct (zl z) M 0 0 (zg z) (.ref b :: As) κ I R J (Si κ R J p)) (hK : κ.1 b = c) (hna : As.length = na)
    (hst : st = As.reverse ++ .ref b :: rest) (hrs : (rest.map fun v => v.category).sum ≤ 8) (hd : M.2.2.2.2 + 1 ≤ d ∧ M.2.2.1 ≤ 21) (hroom : k ≤ (zR z).cells ∧ n ≤ (zR z).slots) (dd : decode cc pc = .ok (.invokevirtual idx, 3))
    (h : ∀ r I1, p r I1 → V z nL k n (pc + 3) lv (.int r :: rest) κ I1 R J) : V z nL k n pc lv st κ I R J :=
  v_callV0 hz ml hc hK hna hst hrs hd hroom dd (fun v κ1 I1 R1 J1 hp => by
    obtain ⟨rfl, rfl, rfl, r, rfl, hp⟩ := hp
    exact h r I1 hp)
theorem v_callVv {p : Iz → Prop} (hz : Am z cc own nL d) {idx c na : Nat} {M : Mz} (ml : MLv own idx M c na) {b : Nat} {As rest : List Value} (hc : Ct (zl z) M 0 0 (zg z) (.ref b :: As) κ I R J (Sv κ R J p)) (hK : κ.1 b = c) (hna : As.length = na)
    (hst : st = As.reverse ++ .ref b :: rest) (hrs : (rest.map fun v => v.category).sum ≤ 8) (hd : M.2.2.2.2 + 1 ≤ d ∧ M.2.2.1 ≤ 21) (hroom : k ≤ (zR z).cells ∧ n ≤ (zR z).slots) (dd : decode cc pc = .ok (.invokevirtual idx, 3))
    (h : ∀ I1, p I1 → V z nL k n (pc + 3) lv rest κ I1 R J) : V z nL k n pc lv st κ I R J :=
  v_callV0 hz ml hc hK hna hst hrs hd hroom dd (fun v κ1 I1 R1 J1 hp => by
    obtain ⟨rfl, rfl, rfl, rfl, hp⟩ := hp
    exact h I1 hp)
theorem v_callVl {p : Int64 → Iz → Prop} (hz : Am z cc own nL d) {idx c na : Nat} {M : Mz} (ml : MLv own idx M c na) {b : Nat} {As rest : List Value} (hc : Ct (zl z) M 0 0 (zg z) (.ref b :: As) κ I R J (Sl κ R J p)) (hK : κ.1 b = c) (hna : As.length = na)
    (hst : st = As.reverse ++ .ref b :: rest) (hrs : (rest.map fun v => v.category).sum ≤ 8) (hd : M.2.2.2.2 + 1 ≤ d ∧ M.2.2.1 ≤ 21) (hroom : k ≤ (zR z).cells ∧ n ≤ (zR z).slots) (dd : decode cc pc = .ok (.invokevirtual idx, 3))
    (h : ∀ r I1, p r I1 → V z nL k n (pc + 3) lv (.long r :: rest) κ I1 R J) : V z nL k n pc lv st κ I R J :=
  v_callV0 hz ml hc hK hna hst hrs hd hroom dd (fun v κ1 I1 R1 J1 hp => by
    obtain ⟨rfl, rfl, rfl, r, rfl, hp⟩ := hp
    exact h r I1 hp)
theorem v_callSi {p : Int32 → Iz → Prop} (hz : Am z cc own nL d) {idx na : Nat} {M : Mz} (ml : MLs own idx M na) {As rest : List Value} (hc : Ct (zl z) M 0 0 (zg z) As κ I R J (Si κ R J p)) (hna : As.length = na)
    (hst : st = As.reverse ++ rest) (hrs : (rest.map fun v => v.category).sum ≤ 8) (hd : M.2.2.2.2 + 1 ≤ d ∧ M.2.2.1 ≤ 21) (hroom : k ≤ (zR z).cells ∧ n ≤ (zR z).slots) (dd : decode cc pc = .ok (.invokestatic idx, 3))
    (h : ∀ r I1, p r I1 → V z nL k n (pc + 3) lv (.int r :: rest) κ I1 R J) : V z nL k n pc lv st κ I R J :=
  v_callS0 hz ml hc hna hst hrs hd hroom dd (fun v κ1 I1 R1 J1 hp => by
    obtain ⟨rfl, rfl, rfl, r, rfl, hp⟩ := hp
    exact h r I1 hp)
theorem v_callSl {p : Int64 → Iz → Prop} (hz : Am z cc own nL d) {idx na : Nat} {M : Mz} (ml : MLs own idx M na) {As rest : List Value} (hc : Ct (zl z) M 0 0 (zg z) As κ I R J (Sl κ R J p)) (hna : As.length = na)
    (hst : st = As.reverse ++ rest) (hrs : (rest.map fun v => v.category).sum ≤ 8) (hd : M.2.2.2.2 + 1 ≤ d ∧ M.2.2.1 ≤ 21) (hroom : k ≤ (zR z).cells ∧ n ≤ (zR z).slots) (dd : decode cc pc = .ok (.invokestatic idx, 3))
    (h : ∀ r I1, p r I1 → V z nL k n (pc + 3) lv (.long r :: rest) κ I1 R J) : V z nL k n pc lv st κ I R J :=
  v_callS0 hz ml hc hna hst hrs hd hroom dd (fun v κ1 I1 R1 J1 hp => by
    obtain ⟨rfl, rfl, rfl, r, rfl, hp⟩ := hp
    exact h r I1 hp)
/-! the three of java/lang/Math -/
theorem v_mmax (hz : Am z cc own nL d) {idx : Nat} (h1 : Cond.methodLink own idx Lib.Math.max.name ∈ tg) (h2 : Cond.static Lib.Math.max.name ∈ tg) (h3 : Cond.initialized "java/lang/Math" ∈ tg) (h4 : Cond.code Lib.Math.max.name Lib.Math.max.code 2 (some .int) ∈ tg) (hd : 1 ≤ d) (hrs : (st.map fun v => v.category).sum ≤ 8) (hroom : k ≤ (zR z).cells ∧ n ≤ (zR z).slots) {x y : Int32} (dd : decode cc pc = .ok (.invokestatic idx, 3))
    (h : V z nL k n (pc + 3) lv (.int (if x < y then y else x) :: st) κ I R J) : V z nL k n pc lv (.int y :: .int x :: st) κ I R J := by
  obtain ⟨⟨hexec, hb, hml, hown, hts⟩, hKK, hlo, hd1, hd2⟩ := hz
  intro ls H locs hl hM hS
  exact va_mmax hexec hb (hml.trans hl.1.symm) hown (hts _ h1) (hts _ h2) (hts _ h3) (hts _ h4) (by omega) (by omega) hroom.1 hroom.2 dd (h ls H locs hl hM hS)
end VC
