/-! ===== the memory: kinds, lengths and owners of the cells; ints, references and longs by address and place ===== -/
abbrev Gz : Type := va_G × (Nat → ClassId) × Nat
abbrev Kz : Type := (Nat → Nat) × (Nat → Nat) × (Nat → Nat)
abbrev Iz : Type := Nat → Nat → Int32
abbrev Rz : Type := Nat → Nat → Option Nat
abbrev Jz : Type := Nat → Nat → Int64
def nfz (c : Nat) : Nat := ([3, 14, 7, 2, 5, 6, 3, 14, 31] : List Nat).getD c 0
def ftz (c k : Nat) : Nat := (([[1, 1, 1], [1, 1, 1, 1, 0, 0, 0, 0, 0, 0, 0, 0, 0, 0], [1, 1, 1, 0, 0, 0, 0], [1, 0], [1, 0, 0, 0, 0], [1, 1, 0, 0, 0, 0], [1, 0, 0], [1, 1, 1, 1, 1, 1, 1, 0, 0, 0, 0, 0, 0, 0], [0, 1, 0, 0, 1, 1, 1, 1, 1, 0, 0, 0, 0, 0, 0, 1, 1, 1, 0, 1, 1, 1, 1, 1, 0, 1, 1, 1, 1, 1, 2]] : List (List Nat)).getD c []).getD k 0
def fvz (t : Nat) (I : Iz) (R : Rz) (J : Jz) (a k : Nat) : Value := match t with
  | 0 => .int (I a k)
  | 1 => va_rf (R a k)
  | _ => .long (J a k)
/-- a row of a two-place function, altered at one place -/
def u2 {α : Type} (f : Nat → Nat → α) (a k : Nat) (x : α) : Nat → Nat → α := fun b => if b = a then (fun j => if j = k then x else f a j) else f b
theorem u2_ne {α : Type} {f : Nat → Nat → α} {a b k : Nat} {x : α} (h : b ≠ a) : u2 f a k x b = f b := if_neg h
theorem u2_eq {α : Type} {f : Nat → Nat → α} {a k : Nat} {x : α} : u2 f a k x a k = x := by simp [u2]
theorem u2_at {α : Type} {f : Nat → Nat → α} {a j k : Nat} {x : α} (h : j ≠ k) : u2 f a k x a j = f a j := by simp [u2, h]
theorem u2_row {α : Type} {f : Nat → Nat → α} {a k : Nat} {x : α} : u2 f a k x a = fun j => if j = k then x else f a j := by simp [u2]
def atM (g : Gz) (κ : Kz) (I : Iz) (R : Rz) (J : Jz) (H : Heap) (a : Nat) : Prop :=
  (κ.1 a < 9 → t_OB a (g.1.1 (κ.1 a)) (nfz (κ.1 a)) (g.1.2 (κ.1 a)) H (fun k => fvz (ftz (κ.1 a) k) I R J a k)) ∧
  ((κ.1 a = 9 ∨ κ.1 a = 10) → H[a]? = some (vp_cell (g.2.1 (κ.1 a)) (κ.2.1 a, .inl (I a)))) ∧
  ((11 ≤ κ.1 a ∧ κ.1 a < 15) → H[a]? = some (vp_cell (g.2.1 (κ.1 a)) (κ.2.1 a, .inr (.inr (.inr (.inr (R a)))))))
def MM (g : Gz) (κ : Kz) (I : Iz) (R : Rz) (J : Jz) (H : Heap) : Prop := ∀ a, (κ.1 a < 15 → g.2.2 ≤ a) ∧ atM g κ I R J H a
theorem atM.keep {g : Gz} {κ κ1 : Kz} {I I1 : Iz} {R R1 : Rz} {J J1 : Jz} {H H1 : Heap} {b : Nat} (h : atM g κ I R J H b) (hH : H1[b]? = H[b]?) (hI : I1 b = I b) (hR : R1 b = R b) (hJ : J1 b = J b) (hK : κ1.1 b = κ.1 b) (hN : κ1.2.1 b = κ.2.1 b) : atM g κ1 I1 R1 J1 H1 b := by
  obtain ⟨h1, h2, h3⟩ := h
  unfold atM
  rw [hK, hN, hH, hI, hR]
  refine ⟨fun q => ((h1 q).kept hH).to (fun k _ => ?_), h2, h3⟩
  unfold fvz
  rw [hI, hR, hJ]
/-- one cell is altered -/
theorem MM.one {g : Gz} {κ : Kz} {I I1 : Iz} {R R1 : Rz} {J J1 : Jz} {H H1 : Heap} {a : Nat} (h : MM g κ I R J H) (hI : ∀ b, b ≠ a → I1 b = I b) (hR : ∀ b, b ≠ a → R1 b = R b) (hJ : ∀ b, b ≠ a → J1 b = J b) (hH : ∀ b, b ≠ a → H1[b]? = H[b]?) (ha : atM g κ I1 R1 J1 H1 a) : MM g κ I1 R1 J1 H1 := by
  intro b
  refine ⟨(h b).1, ?_⟩
  by_cases e : b = a
  · subst e
    exact ha
  · exact (h b).2.keep (hH b e) (hI b e) (hR b e) (hJ b e) rfl rfl
abbrev tyz (g : Gz) : List (ClassId × FieldType) := [(g.2.1 9, .int), (g.2.1 10, .boolean), (g.2.1 11, .object RX1), (g.2.1 12, .object RX5), (g.2.1 13, .object RX6), (g.2.1 14, .array .int)]
/-- the words that stay true as the tables warm, and those of nest mates, which ride in the world -/
def isNest : Cond → Bool
  | .fieldLinkNest .. => true
  | .methodLinkNest .. => true
  | _ => false
def tg : List Cond := lw_tbl.filter goodWord
def tn : List Cond := lw_tbl.filter isNest
theorem tg_mem {w : Cond} (i : Nat) (h : lw_tbl[i]? = some w) (hg : goodWord w = true) : w ∈ tg := List.mem_filter.mpr ⟨List.mem_of_getElem? h, hg⟩
theorem tn_mem {w : Cond} (i : Nat) (h : lw_tbl[i]? = some w) (hg : isNest w = true) : w ∈ tn := List.mem_filter.mpr ⟨List.mem_of_getElem? h, hg⟩
theorem tg_good {w : Cond} (h : w ∈ tg) : (w.onTables && w.keeps) = true ∨ ∃ ty, w = .arrayClass ty := good_of_word (List.mem_filter.mp h).2
theorem nest_warm {w : Cond} (hn : isNest w = true) {s U : State} (hW : s.WarmedH U.vm) (h : va_Nw w s) : va_Nw w U := by
  cases w <;> first | exact va_Nw.warmF hW h | exact va_Nw.warmM hW h | cases hn
theorem nest_same {w : Cond} (hn : isNest w = true) {s U : State} (hW : s.vm = U.vm) (h : va_Nw w s) : va_Nw w U := by
  cases w <;> first | exact va_Nw.same rfl hW h | cases hn
theorem nest_use {w : Cond} (hn : isNest w = true) {A : Array Value} {U : State} (h : va_Nw w U) : w.before A U = true := by
  cases w <;> first | exact va_Nw.use rfl h | cases hn
def AOi (U : State) : Prop := (Cond.arrayOver (.array .int)).before #[] U = true
theorem AOi.moved {u U : State} (hvm : u.vm.Alike U.vm) (h : AOi u) : AOi U := by
  unfold AOi Cond.before Cond.holds at h ⊢
  simp only [Cond.value, beq_iff_eq] at h ⊢
  cases hc : u.vm.findClass (FieldType.array .int).toString with
  | none => simp [hc] at h
  | some comp =>
    simp only [hc, Option.bind_some, Option.bind_eq_some_iff, Option.map_eq_some_iff] at h
    obtain ⟨c, hi, k, hk, hb⟩ := h
    obtain ⟨k', hk', he⟩ := hvm.2.2 _ _ hk
    have hi2 : (U.vm.classes.findIdx? fun (x : Class) => match x.kind with | .array component _ => component == comp | _ => false) = some c := by
      have e3 : u.vm.bare = U.vm.bare := by first | exact hvm.bare_eq | exact hvm.bare_eq.symm
      have e1 := va_idx_bare U.vm comp
      have e2 := va_idx_bare u.vm comp
      rw [e3] at e2
      exact e1.symm.trans (e2.trans hi)
    have f1 : U.vm.findClass (FieldType.array .int).toString = some comp := by rw [hvm.findClass]; exact hc
    simp only [f1, Option.bind_some, Option.bind_eq_some_iff, Option.map_eq_some_iff]
    refine ⟨c, hi2, k', hk', ?_⟩
    rw [he, hvm.findClass]
    exact hb
def KKz (g : Gz) (U : State) : Prop := va_K g.1 vwCl (tyz g) U ∧ (∀ w ∈ tn, va_Nw w U) ∧ va_AO RX1 U ∧ va_AO RX5 U ∧ va_AO RX6 U ∧ AOi U
theorem KKz.warm {g : Gz} {s U : State} (hW : s.WarmedH U.vm) (h : KKz g s) : KKz g U := ⟨va_K.moved hW.alike h.1, fun w hw => nest_warm (List.mem_filter.mp hw).2 hW (h.2.1 w hw), va_AO.moved hW.alike h.2.2.1, va_AO.moved hW.alike h.2.2.2.1, va_AO.moved hW.alike h.2.2.2.2.1, AOi.moved hW.alike h.2.2.2.2.2⟩
theorem KKz.same {g : Gz} {s U : State} (hW : s.vm = U.vm) (h : KKz g s) : KKz g U := by
  have ha : s.vm.Alike U.vm := by rw [hW]; exact Vm.Alike.refl U.vm
  exact ⟨va_K.moved ha h.1, fun w hw => nest_same (List.mem_filter.mp hw).2 hW (h.2.1 w hw), va_AO.moved ha h.2.2.1, va_AO.moved ha h.2.2.2.1, va_AO.moved ha h.2.2.2.2.1, AOi.moved ha h.2.2.2.2.2⟩
/-! ===== the walk: everything that stands still in one tuple ===== -/
abbrev Zz : Type := Program × Launch × Env × Room × State × MethodId × Array Value × List Frame × Method × Code × (State → Prop) × Gz
abbrev zp (z : Zz) := z.1
abbrev zl (z : Zz) := z.2.1
abbrev ze (z : Zz) := z.2.2.1
abbrev zR (z : Zz) := z.2.2.2.1
abbrev zs (z : Zz) := z.2.2.2.2.1
abbrev zm (z : Zz) := z.2.2.2.2.2.1
abbrev za (z : Zz) := z.2.2.2.2.2.2.1
abbrev zb (z : Zz) := z.2.2.2.2.2.2.2.1
abbrev zt (z : Zz) := z.2.2.2.2.2.2.2.2.1
abbrev zc (z : Zz) := z.2.2.2.2.2.2.2.2.2.1
abbrev zq (z : Zz) := z.2.2.2.2.2.2.2.2.2.2.1
abbrev zg (z : Zz) := z.2.2.2.2.2.2.2.2.2.2.2
def lvh (ls : Array Slot) (nL : Nat) (l : List (Nat × Value)) : Prop := ls.size = nL ∧ lv_wf ls ∧ ∀ k v, l.lookup k = some v → ls[k]? = some (.val v)
def V (z : Zz) (nL k n pc : Nat) (lv : List (Nat × Value)) (st : List Value) (κ : Kz) (I : Iz) (R : Rz) (J : Jz) : Prop :=
  ∀ (ls : Array Slot) (H : Heap) (locs : List Loc), lvh ls nL lv → MM (zg z) κ I R J H → va_S (fun q => (zg z).2.2 ≤ q) (zs z).heap H locs →
    W (zp z) (zl z) (ze z) (zR z) (zs z) (zm z) (za z) (zb z) (zt z) (zc z) H locs k n (zq z) (F0 (zm z) pc ls st)
/-- what stands still in a method's walk: its code, class, locals, its room's depth -/
def Am (z : Zz) (cc : ByteArray) (own : String) (nL d : Nat) : Prop :=
  CallFix (zp z) (zm z) (zc z) cc nL (zs z) (za z) tg own ∧ KKz (zg z) (zs z) ∧ (zg z).2.2 ≤ (zs z).heap.size ∧ d ≤ (zR z).frames ∧ 40 * d ≤ (zR z).locals
theorem lookup_mem {l : List (Nat × Value)} {k : Nat} {v : Value} (h : l.lookup k = some v) : (k, v) ∈ l := by
  induction l with
  | nil => simp at h
  | cons q t ih =>
    obtain ⟨a, b⟩ := q
    by_cases e : k = a
    · subst e
      simp at h
      subst h
      exact List.mem_cons_self
    · have h2 : (k == a) = false := by simpa using e
      rw [List.lookup_cons, h2] at h
      exact List.mem_cons_of_mem _ (ih h)
theorem lvh.of {ls : Array Slot} {nL : Nat} {l : List (Nat × Value)} (h : lv_has ls nL l) : lvh ls nL l := ⟨h.1, h.2.1, fun _ _ hk => h.2.2 _ (lookup_mem hk)⟩
theorem lvh.one {ls : Array Slot} {nL : Nat} {l : List (Nat × Value)} (h : lvh ls nL l) {k : Nat} {v : Value} (hk : l.lookup k = some v) : lv_has ls nL [(k, v)] :=
  ⟨h.1, h.2.1, fun q hq => by
    have e : q = (k, v) := by simpa using hq
    subst e
    exact h.2.2 k v hk⟩
/-- the local at i is no second half -/
def clr (l : List (Nat × Value)) (i : Nat) : Bool := match i with
  | 0 => true
  | j + 1 => match l.lookup j with
    | some w => w.category != 2
    | none => true
theorem lvh.store1 {ls : Array Slot} {nL : Nat} {l : List (Nat × Value)} {i : Nat} {v : Value} (h : lvh ls nL l) (hi : i < nL) (hc : v.category = 1) (hcl : clr l i = true) : ∃ ls', storeLocals ls i v = some ls' ∧ lvh ls' nL ((i, v) :: l) := by
  obtain ⟨ls', e, h'⟩ := lv_store1 (l := []) (v := v) ⟨h.1, h.2.1, fun q hq => by simp at hq⟩ hi hc
  refine ⟨ls', e, h'.1, h'.2.1, fun k w hk => ?_⟩
  by_cases e2 : k = i
  · subst e2
    have hw : v = w := by simpa using hk
    subst hw
    exact h'.2.2 _ List.mem_cons_self
  · have h2 : (k == i) = false := by simpa using e2
    rw [List.lookup_cons, h2] at hk
    obtain ⟨ls2, e3, h3⟩ := lv_store1 (v := v) (h.one hk) hi hc
    have e4 : ls2 = ls' := Option.some.inj (e3.symm.trans e)
    subst e4
    refine h3.2.2 (k, w) (List.mem_cons_of_mem _ (List.mem_filter.mpr ⟨List.mem_cons_self, ?_⟩))
    by_cases e5 : k + 1 = i
    · subst e5
      simp only [clr, hk] at hcl
      simp [h2]
      intro h6
      simp [h6] at hcl
    · simp [h2, e5]
theorem lvh.store2 {ls : Array Slot} {nL : Nat} {l : List (Nat × Value)} {i : Nat} {v : Value} (h : lvh ls nL l) (hi : i + 1 < nL) (hc : v.category = 2) (hcl : clr l i = true) : ∃ ls', storeLocals ls i v = some ls' ∧ lvh ls' nL ((i, v) :: l.filter (fun q => !(q.1 == i + 1))) := by
  obtain ⟨ls', e, h'⟩ := lv_store2 (l := []) (v := v) ⟨h.1, h.2.1, fun q hq => by simp at hq⟩ hi hc
  refine ⟨ls', e, h'.1, h'.2.1, fun k w hk => ?_⟩
  by_cases e2 : k = i
  · subst e2
    have hw : v = w := by simpa using hk
    subst hw
    exact h'.2.2 _ List.mem_cons_self
  · have h2 : (k == i) = false := by simpa using e2
    rw [List.lookup_cons, h2] at hk
    have hm := lookup_mem hk
    have h7 : ¬ k = i + 1 := by
      have := (List.mem_filter.mp hm).2
      simpa using this
    have hk2 : l.lookup k = some w := by
      clear hcl hm h e h' hi
      induction l with
      | nil => simp at hk
      | cons q t ih =>
        obtain ⟨a, b⟩ := q
        by_cases e8 : k = a
        · subst e8
          have h9 : (!(k == i + 1)) = true := by simpa using h7
          rw [List.filter_cons_of_pos (by simpa using h7)] at hk
          simpa using hk
        · have h9 : (k == a) = false := by simpa using e8
          rw [List.lookup_cons, h9]
          apply ih
          by_cases h10 : a = i + 1
          · rw [List.filter_cons_of_neg (by simpa using h10)] at hk
            exact hk
          · rw [List.filter_cons_of_pos (by simpa using h10), List.lookup_cons, h9] at hk
            exact hk
    obtain ⟨ls2, e3, h3⟩ := lv_store2 (v := v) (h.one hk2) hi hc
    have e4 : ls2 = ls' := Option.some.inj (e3.symm.trans e)
    subst e4
    refine h3.2.2 (k, w) (List.mem_cons_of_mem _ (List.mem_filter.mpr ⟨List.mem_cons_self, ?_⟩))
    by_cases e5 : k + 1 = i
    · subst e5
      simp only [clr, hk2] at hcl
      simp [h2]
      refine ⟨h7, fun h6 => ?_⟩
      simp [h6] at hcl
    · simp [h2, e5, h7]
/-- fewer locals, in another order -/
def subl : List (Nat × Value) → List (Nat × Value) → Prop
  | [], _ => True
  | q :: t, l => l.lookup q.1 = some q.2 ∧ subl t l
theorem subl.use {l' l : List (Nat × Value)} (h : subl l' l) {k : Nat} {v : Value} (hk : l'.lookup k = some v) : l.lookup k = some v := by
  induction l' with
  | nil => simp at hk
  | cons q t ih =>
    obtain ⟨a, b⟩ := q
    by_cases e : k = a
    · subst e
      have hw : b = v := by simpa using hk
      subst hw
      exact h.1
    · have h2 : (k == a) = false := by simpa using e
      rw [List.lookup_cons, h2] at hk
      exact ih h.2 hk
section VR
variable {z : Zz} {cc : ByteArray} {own : String} {nL d k n pc : Nat} {lv : List (Nat × Value)} {st : List Value} {κ : Kz} {I : Iz} {R : Rz} {J : Jz}
theorem v_loc {lv' : List (Nat × Value)} (hs : subl lv' lv) (h : V z nL k n pc lv' st κ I R J) : V z nL k n pc lv st κ I R J :=
  fun ls H locs hl hM hS => h ls H locs ⟨hl.1, hl.2.1, fun _ _ hk => hl.2.2 _ _ (hs.use hk)⟩ hM hS
theorem v_pc {pc' : Nat} (e : pc = pc') (h : V z nL k n pc' lv st κ I R J) : V z nL k n pc lv st κ I R J := e ▸ h
theorem v_iconst (hz : Am z cc own nL d) {i : Int} (dd : decode cc pc = .ok (.iconst i, 1))
    (h : V z nL k n (pc + 1) lv (.int (Int32.ofInt i) :: st) κ I R J) : V z nL k n pc lv st κ I R J :=
  fun ls H locs hl hM hS => lv_iconst hz.1.1 hz.1.2.1 dd rfl (h ls H locs hl hM hS)
theorem v_bipush (hz : Am z cc own nL d) {i : Int} (dd : decode cc pc = .ok (.bipush i, 2))
    (h : V z nL k n (pc + 2) lv (.int (Int8.ofInt i).toInt32 :: st) κ I R J) : V z nL k n pc lv st κ I R J :=
  fun ls H locs hl hM hS => lv_bipush hz.1.1 hz.1.2.1 dd rfl (h ls H locs hl hM hS)
theorem v_sipush (hz : Am z cc own nL d) {i : Int} (dd : decode cc pc = .ok (.sipush i, 3))
    (h : V z nL k n (pc + 3) lv (.int (Int16.ofInt i).toInt32 :: st) κ I R J) : V z nL k n pc lv st κ I R J :=
  fun ls H locs hl hM hS => lv_sipush hz.1.1 hz.1.2.1 dd rfl (h ls H locs hl hM hS)
theorem v_ic (hz : Am z cc own nL d) {i : Int} {v : Int32} (dd : decode cc pc = .ok (.iconst i, 1)) (hv : Int32.ofInt i = v)
    (h : V z nL k n (pc + 1) lv (.int v :: st) κ I R J) : V z nL k n pc lv st κ I R J :=
  fun ls H locs hl hM hS => lv_iconst hz.1.1 hz.1.2.1 dd hv (h ls H locs hl hM hS)
theorem v_bi (hz : Am z cc own nL d) {i : Int} {v : Int32} (dd : decode cc pc = .ok (.bipush i, 2)) (hv : (Int8.ofInt i).toInt32 = v)
    (h : V z nL k n (pc + 2) lv (.int v :: st) κ I R J) : V z nL k n pc lv st κ I R J :=
  fun ls H locs hl hM hS => lv_bipush hz.1.1 hz.1.2.1 dd hv (h ls H locs hl hM hS)
theorem v_si (hz : Am z cc own nL d) {i : Int} {v : Int32} (dd : decode cc pc = .ok (.sipush i, 3)) (hv : (Int16.ofInt i).toInt32 = v)
    (h : V z nL k n (pc + 3) lv (.int v :: st) κ I R J) : V z nL k n pc lv st κ I R J :=
  fun ls H locs hl hM hS => lv_sipush hz.1.1 hz.1.2.1 dd hv (h ls H locs hl hM hS)
theorem v_ldc (hz : Am z cc own nL d) {i : Nat} {v : Int32} (hw : Cond.constant own i v ∈ tg) (dd : decode cc pc = .ok (.ldc i, 2))
    (h : V z nL k n (pc + 2) lv (.int v :: st) κ I R J) : V z nL k n pc lv st κ I R J :=
  fun ls H locs hl hM hS => lv_ldc hz.1.1 hz.1.2.1 hz.1.2.2.2.1 (hz.1.2.2.2.2 _ hw) dd (h ls H locs hl hM hS)
theorem v_ldc2 (hz : Am z cc own nL d) {i : Nat} {v : Int64} (hw : Cond.constantLong own i v ∈ tg) (dd : decode cc pc = .ok (.ldc2_w i, 3))
    (h : V z nL k n (pc + 3) lv (.long v :: st) κ I R J) : V z nL k n pc lv st κ I R J :=
  fun ls H locs hl hM hS => lv_ldc2 hz.1.1 hz.1.2.1 hz.1.2.2.2.1 (hz.1.2.2.2.2 _ hw) dd (h ls H locs hl hM hS)
theorem v_iload_n (hz : Am z cc own nL d) {i : Fin 4} {x : Int32} (dd : decode cc pc = .ok (.iload_n i, 1)) (hx : lv.lookup (i : Nat) = some (.int x))
    (h : V z nL k n (pc + 1) lv (.int x :: st) κ I R J) : V z nL k n pc lv st κ I R J :=
  fun ls H locs hl hM hS => lv_iload_n hz.1.1 hz.1.2.1 dd rfl (hl.2.2 _ _ hx) (h ls H locs hl hM hS)
theorem v_iload (hz : Am z cc own nL d) {i : Nat} {x : Int32} (dd : decode cc pc = .ok (.iload i, 2)) (hx : lv.lookup i = some (.int x))
    (h : V z nL k n (pc + 2) lv (.int x :: st) κ I R J) : V z nL k n pc lv st κ I R J :=
  fun ls H locs hl hM hS => lv_iload hz.1.1 hz.1.2.1 dd (hl.2.2 _ _ hx) (h ls H locs hl hM hS)
theorem v_lload_n (hz : Am z cc own nL d) {i : Fin 4} {x : Int64} (dd : decode cc pc = .ok (.lload_n i, 1)) (hx : lv.lookup (i : Nat) = some (.long x))
    (h : V z nL k n (pc + 1) lv (.long x :: st) κ I R J) : V z nL k n pc lv st κ I R J :=
  fun ls H locs hl hM hS => lv_lload_n hz.1.1 hz.1.2.1 dd rfl (hl.2.2 _ _ hx) (h ls H locs hl hM hS)
theorem v_lload (hz : Am z cc own nL d) {i : Nat} {x : Int64} (dd : decode cc pc = .ok (.lload i, 2)) (hx : lv.lookup i = some (.long x))
    (h : V z nL k n (pc + 2) lv (.long x :: st) κ I R J) : V z nL k n pc lv st κ I R J :=
  fun ls H locs hl hM hS => lv_lload hz.1.1 hz.1.2.1 dd (hl.2.2 _ _ hx) (h ls H locs hl hM hS)
theorem v_aload_n (hz : Am z cc own nL d) {i : Fin 4} {x : Nat} (dd : decode cc pc = .ok (.aload_n i, 1)) (hx : lv.lookup (i : Nat) = some (.ref x))
    (h : V z nL k n (pc + 1) lv (.ref x :: st) κ I R J) : V z nL k n pc lv st κ I R J :=
  fun ls H locs hl hM hS => lv_aload_n hz.1.1 hz.1.2.1 dd rfl (hl.2.2 _ _ hx) (h ls H locs hl hM hS)
theorem v_aload (hz : Am z cc own nL d) {i : Nat} {x : Nat} (dd : decode cc pc = .ok (.aload i, 2)) (hx : lv.lookup i = some (.ref x))
    (h : V z nL k n (pc + 2) lv (.ref x :: st) κ I R J) : V z nL k n pc lv st κ I R J :=
  fun ls H locs hl hM hS => lv_aload hz.1.1 hz.1.2.1 dd (hl.2.2 _ _ hx) (h ls H locs hl hM hS)
theorem v_iadd (hz : Am z cc own nL d) {x y : Int32} (dd : decode cc pc = .ok (.iadd, 1))
    (h : V z nL k n (pc + 1) lv (.int (x + y) :: st) κ I R J) : V z nL k n pc lv (.int y :: .int x :: st) κ I R J :=
  fun ls H locs hl hM hS => lv_iadd hz.1.1 hz.1.2.1 dd (h ls H locs hl hM hS)
theorem v_isub (hz : Am z cc own nL d) {x y : Int32} (dd : decode cc pc = .ok (.isub, 1))
    (h : V z nL k n (pc + 1) lv (.int (x - y) :: st) κ I R J) : V z nL k n pc lv (.int y :: .int x :: st) κ I R J :=
  fun ls H locs hl hM hS => lv_isub hz.1.1 hz.1.2.1 dd (h ls H locs hl hM hS)
theorem v_imul (hz : Am z cc own nL d) {x y : Int32} (dd : decode cc pc = .ok (.imul, 1))
    (h : V z nL k n (pc + 1) lv (.int (x * y) :: st) κ I R J) : V z nL k n pc lv (.int y :: .int x :: st) κ I R J :=
  fun ls H locs hl hM hS => lv_imul hz.1.1 hz.1.2.1 dd (h ls H locs hl hM hS)
theorem v_iand (hz : Am z cc own nL d) {x y : Int32} (dd : decode cc pc = .ok (.iand, 1))
    (h : V z nL k n (pc + 1) lv (.int (x &&& y) :: st) κ I R J) : V z nL k n pc lv (.int y :: .int x :: st) κ I R J :=
  fun ls H locs hl hM hS => lv_iand hz.1.1 hz.1.2.1 dd (h ls H locs hl hM hS)
theorem v_ladd (hz : Am z cc own nL d) {x y : Int64} (dd : decode cc pc = .ok (.ladd, 1))
    (h : V z nL k n (pc + 1) lv (.long (x + y) :: st) κ I R J) : V z nL k n pc lv (.long y :: .long x :: st) κ I R J :=
  fun ls H locs hl hM hS => lv_ladd hz.1.1 hz.1.2.1 dd (h ls H locs hl hM hS)
theorem v_lmul (hz : Am z cc own nL d) {x y : Int64} (dd : decode cc pc = .ok (.lmul, 1))
    (h : V z nL k n (pc + 1) lv (.long (x * y) :: st) κ I R J) : V z nL k n pc lv (.long y :: .long x :: st) κ I R J :=
  fun ls H locs hl hM hS => lv_lmul hz.1.1 hz.1.2.1 dd (h ls H locs hl hM hS)
theorem v_ineg (hz : Am z cc own nL d) {x : Int32} (dd : decode cc pc = .ok (.ineg, 1))
    (h : V z nL k n (pc + 1) lv (.int (-x) :: st) κ I R J) : V z nL k n pc lv (.int x :: st) κ I R J :=
  fun ls H locs hl hM hS => lv_ineg hz.1.1 hz.1.2.1 dd (h ls H locs hl hM hS)
theorem v_i2l (hz : Am z cc own nL d) {x : Int32} (dd : decode cc pc = .ok (.i2l, 1))
    (h : V z nL k n (pc + 1) lv (.long x.toInt64 :: st) κ I R J) : V z nL k n pc lv (.int x :: st) κ I R J :=
  fun ls H locs hl hM hS => lv_i2l hz.1.1 hz.1.2.1 dd rfl (h ls H locs hl hM hS)
theorem v_idiv (hz : Am z cc own nL d) {x y : Int32} (dd : decode cc pc = .ok (.idiv, 1)) (hne : ¬ y = 0)
    (h : V z nL k n (pc + 1) lv (.int (x / y) :: st) κ I R J) : V z nL k n pc lv (.int y :: .int x :: st) κ I R J :=
  fun ls H locs hl hM hS => lv_idiv hz.1.1 hz.1.2.1 dd hne (h ls H locs hl hM hS)
theorem v_irem (hz : Am z cc own nL d) {x y : Int32} (dd : decode cc pc = .ok (.irem, 1)) (hne : ¬ y = 0)
    (h : V z nL k n (pc + 1) lv (.int (x - x / y * y) :: st) κ I R J) : V z nL k n pc lv (.int y :: .int x :: st) κ I R J :=
  fun ls H locs hl hM hS => lv_irem hz.1.1 hz.1.2.1 dd hne (h ls H locs hl hM hS)
theorem v_dup (hz : Am z cc own nL d) {v : Value} (dd : decode cc pc = .ok (.dup, 1)) (hc : v.category = 1)
    (h : V z nL k n (pc + 1) lv (v :: v :: st) κ I R J) : V z nL k n pc lv (v :: st) κ I R J :=
  fun ls H locs hl hM hS => lv_dup hz.1.1 hz.1.2.1 dd hc (h ls H locs hl hM hS)
theorem v_dup2 (hz : Am z cc own nL d) {v u : Value} (dd : decode cc pc = .ok (.dup2, 1)) (hc : v.category = 1) (hd : u.category = 1)
    (h : V z nL k n (pc + 1) lv (v :: u :: v :: u :: st) κ I R J) : V z nL k n pc lv (v :: u :: st) κ I R J :=
  fun ls H locs hl hM hS => lv_dup2_11 hz.1.1 hz.1.2.1 dd hc hd (h ls H locs hl hM hS)
theorem v_istore_n (hz : Am z cc own nL d) {i : Fin 4} {x : Int32} (dd : decode cc pc = .ok (.istore_n i, 1)) (hn : (i : Nat) < nL) (hcl : clr lv i = true)
    (h : V z nL k n (pc + 1) (((i : Nat), .int x) :: lv) st κ I R J) : V z nL k n pc lv (.int x :: st) κ I R J := by
  intro ls H locs hl hM hS
  obtain ⟨ls', e', h'⟩ := hl.store1 (v := .int x) hn rfl hcl
  intro T hT X
  obtain ⟨t, a, b⟩ := h ls' H locs h' hM hS T hT X
  have hexec := hz.1.1
  have hb := hz.1.2.1
  refine ⟨t, ?_, b⟩
  jvm_step X.here [X.here.top, ↓top_set X.here.top, hexec, hb, dd, e']
  exact a
theorem v_istore (hz : Am z cc own nL d) {i : Nat} {x : Int32} (dd : decode cc pc = .ok (.istore i, 2)) (hn : (i : Nat) < nL) (hcl : clr lv i = true)
    (h : V z nL k n (pc + 2) (((i : Nat), .int x) :: lv) st κ I R J) : V z nL k n pc lv (.int x :: st) κ I R J := by
  intro ls H locs hl hM hS
  obtain ⟨ls', e', h'⟩ := hl.store1 (v := .int x) hn rfl hcl
  intro T hT X
  obtain ⟨t, a, b⟩ := h ls' H locs h' hM hS T hT X
  have hexec := hz.1.1
  have hb := hz.1.2.1
  refine ⟨t, ?_, b⟩
  jvm_step X.here [X.here.top, ↓top_set X.here.top, hexec, hb, dd, e']
  exact a
theorem v_astore_n (hz : Am z cc own nL d) {i : Fin 4} {x : Nat} (dd : decode cc pc = .ok (.astore_n i, 1)) (hn : (i : Nat) < nL) (hcl : clr lv i = true)
    (h : V z nL k n (pc + 1) (((i : Nat), .ref x) :: lv) st κ I R J) : V z nL k n pc lv (.ref x :: st) κ I R J := by
  intro ls H locs hl hM hS
  obtain ⟨ls', e', h'⟩ := hl.store1 (v := .ref x) hn rfl hcl
  intro T hT X
  obtain ⟨t, a, b⟩ := h ls' H locs h' hM hS T hT X
  have hexec := hz.1.1
  have hb := hz.1.2.1
  refine ⟨t, ?_, b⟩
  jvm_step X.here [X.here.top, ↓top_set X.here.top, hexec, hb, dd, e', Value.isRef]
  exact a
theorem v_astore (hz : Am z cc own nL d) {i : Nat} {x : Nat} (dd : decode cc pc = .ok (.astore i, 2)) (hn : (i : Nat) < nL) (hcl : clr lv i = true)
    (h : V z nL k n (pc + 2) (((i : Nat), .ref x) :: lv) st κ I R J) : V z nL k n pc lv (.ref x :: st) κ I R J := by
  intro ls H locs hl hM hS
  obtain ⟨ls', e', h'⟩ := hl.store1 (v := .ref x) hn rfl hcl
  intro T hT X
  obtain ⟨t, a, b⟩ := h ls' H locs h' hM hS T hT X
  have hexec := hz.1.1
  have hb := hz.1.2.1
  refine ⟨t, ?_, b⟩
  jvm_step X.here [X.here.top, ↓top_set X.here.top, hexec, hb, dd, e', Value.isRef]
  exact a
theorem v_lstore_n (hz : Am z cc own nL d) {i : Fin 4} {x : Int64} (dd : decode cc pc = .ok (.lstore_n i, 1)) (hn : (i : Nat) + 1 < nL) (hcl : clr lv i = true)
    (h : V z nL k n (pc + 1) (((i : Nat), .long x) :: lv.filter (fun q => !(q.1 == (i : Nat) + 1))) st κ I R J) : V z nL k n pc lv (.long x :: st) κ I R J := by
  intro ls H locs hl hM hS
  obtain ⟨ls', e', h'⟩ := hl.store2 (v := .long x) hn rfl hcl
  intro T hT X
  obtain ⟨t, a, b⟩ := h ls' H locs h' hM hS T hT X
  have hexec := hz.1.1
  have hb := hz.1.2.1
  refine ⟨t, ?_, b⟩
  jvm_step X.here [X.here.top, ↓top_set X.here.top, hexec, hb, dd, e']
  exact a
theorem v_lstore (hz : Am z cc own nL d) {i : Nat} {x : Int64} (dd : decode cc pc = .ok (.lstore i, 2)) (hn : (i : Nat) + 1 < nL) (hcl : clr lv i = true)
    (h : V z nL k n (pc + 2) (((i : Nat), .long x) :: lv.filter (fun q => !(q.1 == (i : Nat) + 1))) st κ I R J) : V z nL k n pc lv (.long x :: st) κ I R J := by
  intro ls H locs hl hM hS
  obtain ⟨ls', e', h'⟩ := hl.store2 (v := .long x) hn rfl hcl
  intro T hT X
  obtain ⟨t, a, b⟩ := h ls' H locs h' hM hS T hT X
  have hexec := hz.1.1
  have hb := hz.1.2.1
  refine ⟨t, ?_, b⟩
  jvm_step X.here [X.here.top, ↓top_set X.here.top, hexec, hb, dd, e']
  exact a
theorem v_iinc (hz : Am z cc own nL d) {i : Nat} {c : Int} {x : Int32} (dd : decode cc pc = .ok (.iinc i c, 3)) (hx : lv.lookup i = some (.int x)) (hn : i < nL) (hcl : clr lv i = true)
    (h : V z nL k n (pc + 3) ((i, .int (x + Int32.ofInt c)) :: lv) st κ I R J) : V z nL k n pc lv st κ I R J := by
  intro ls H locs hl hM hS
  obtain ⟨ls', e', h'⟩ := hl.store1 (v := .int (x + Int32.ofInt c)) hn rfl hcl
  have hg := hl.2.2 _ _ hx
  intro T hT X
  obtain ⟨t, a, b⟩ := h ls' H locs h' hM hS T hT X
  have hexec := hz.1.1
  have hb := hz.1.2.1
  refine ⟨t, ?_, b⟩
  jvm_step X.here [X.here.top, ↓top_set X.here.top, hexec, hb, dd, hg, e']
  exact a
theorem v_if_eq (hz : Am z cc own nL d) (tgt : Nat) {x : Int32} {off : Int} (dd : decode cc pc = .ok (.ifCond .eq off, 3)) (ht : (pc : Int) + off = (tgt : Int))
    (kt : x = 0 → V z nL k n tgt lv st κ I R J) (kf : ¬ (x = 0) → V z nL k n (pc + 3) lv st κ I R J) : V z nL k n pc lv (.int x :: st) κ I R J :=
  fun ls H locs hl hM hS => lv_if_eq hz.1.1 hz.1.2.1 dd ht (fun q => kt (by first | exact q | simpa using q) ls H locs hl hM hS) (fun q => kf (by first | exact q | simpa using q) ls H locs hl hM hS)
theorem v_if_ne (hz : Am z cc own nL d) (tgt : Nat) {x : Int32} {off : Int} (dd : decode cc pc = .ok (.ifCond .ne off, 3)) (ht : (pc : Int) + off = (tgt : Int))
    (kt : x ≠ 0 → V z nL k n tgt lv st κ I R J) (kf : ¬ (x ≠ 0) → V z nL k n (pc + 3) lv st κ I R J) : V z nL k n pc lv (.int x :: st) κ I R J :=
  fun ls H locs hl hM hS => lv_if_ne hz.1.1 hz.1.2.1 dd ht (fun q => kt (by first | exact q | simpa using q) ls H locs hl hM hS) (fun q => kf (by first | exact q | simpa using q) ls H locs hl hM hS)
theorem v_if_lt (hz : Am z cc own nL d) (tgt : Nat) {x : Int32} {off : Int} (dd : decode cc pc = .ok (.ifCond .lt off, 3)) (ht : (pc : Int) + off = (tgt : Int))
    (kt : x < 0 → V z nL k n tgt lv st κ I R J) (kf : ¬ (x < 0) → V z nL k n (pc + 3) lv st κ I R J) : V z nL k n pc lv (.int x :: st) κ I R J :=
  fun ls H locs hl hM hS => lv_if_lt hz.1.1 hz.1.2.1 dd ht (fun q => kt (by first | exact q | simpa using q) ls H locs hl hM hS) (fun q => kf (by first | exact q | simpa using q) ls H locs hl hM hS)
theorem v_if_ge (hz : Am z cc own nL d) (tgt : Nat) {x : Int32} {off : Int} (dd : decode cc pc = .ok (.ifCond .ge off, 3)) (ht : (pc : Int) + off = (tgt : Int))
    (kt : 0 ≤ x → V z nL k n tgt lv st κ I R J) (kf : ¬ (0 ≤ x) → V z nL k n (pc + 3) lv st κ I R J) : V z nL k n pc lv (.int x :: st) κ I R J :=
  fun ls H locs hl hM hS => lv_if_ge hz.1.1 hz.1.2.1 dd ht (fun q => kt (by first | exact q | simpa using q) ls H locs hl hM hS) (fun q => kf (by first | exact q | simpa using q) ls H locs hl hM hS)
theorem v_if_gt (hz : Am z cc own nL d) (tgt : Nat) {x : Int32} {off : Int} (dd : decode cc pc = .ok (.ifCond .gt off, 3)) (ht : (pc : Int) + off = (tgt : Int))
    (kt : 0 < x → V z nL k n tgt lv st κ I R J) (kf : ¬ (0 < x) → V z nL k n (pc + 3) lv st κ I R J) : V z nL k n pc lv (.int x :: st) κ I R J :=
  fun ls H locs hl hM hS => lv_if_gt hz.1.1 hz.1.2.1 dd ht (fun q => kt (by first | exact q | simpa using q) ls H locs hl hM hS) (fun q => kf (by first | exact q | simpa using q) ls H locs hl hM hS)
theorem v_if_le (hz : Am z cc own nL d) (tgt : Nat) {x : Int32} {off : Int} (dd : decode cc pc = .ok (.ifCond .le off, 3)) (ht : (pc : Int) + off = (tgt : Int))
    (kt : x ≤ 0 → V z nL k n tgt lv st κ I R J) (kf : ¬ (x ≤ 0) → V z nL k n (pc + 3) lv st κ I R J) : V z nL k n pc lv (.int x :: st) κ I R J :=
  fun ls H locs hl hM hS => lv_if_le hz.1.1 hz.1.2.1 dd ht (fun q => kt (by first | exact q | simpa using q) ls H locs hl hM hS) (fun q => kf (by first | exact q | simpa using q) ls H locs hl hM hS)
theorem v_icmp_eq (hz : Am z cc own nL d) (tgt : Nat) {x y : Int32} {off : Int} (dd : decode cc pc = .ok (.if_icmp .eq off, 3)) (ht : (pc : Int) + off = (tgt : Int))
    (kt : x = y → V z nL k n tgt lv st κ I R J) (kf : ¬ (x = y) → V z nL k n (pc + 3) lv st κ I R J) : V z nL k n pc lv (.int y :: .int x :: st) κ I R J :=
  fun ls H locs hl hM hS => lv_icmp_eq hz.1.1 hz.1.2.1 dd ht (fun q => kt (by first | exact q | simpa using q) ls H locs hl hM hS) (fun q => kf (by first | exact q | simpa using q) ls H locs hl hM hS)
theorem v_icmp_ne (hz : Am z cc own nL d) (tgt : Nat) {x y : Int32} {off : Int} (dd : decode cc pc = .ok (.if_icmp .ne off, 3)) (ht : (pc : Int) + off = (tgt : Int))
    (kt : x ≠ y → V z nL k n tgt lv st κ I R J) (kf : ¬ (x ≠ y) → V z nL k n (pc + 3) lv st κ I R J) : V z nL k n pc lv (.int y :: .int x :: st) κ I R J :=
  fun ls H locs hl hM hS => lv_icmp_ne hz.1.1 hz.1.2.1 dd ht (fun q => kt (by first | exact q | simpa using q) ls H locs hl hM hS) (fun q => kf (by first | exact q | simpa using q) ls H locs hl hM hS)
theorem v_icmp_lt (hz : Am z cc own nL d) (tgt : Nat) {x y : Int32} {off : Int} (dd : decode cc pc = .ok (.if_icmp .lt off, 3)) (ht : (pc : Int) + off = (tgt : Int))
    (kt : x < y → V z nL k n tgt lv st κ I R J) (kf : ¬ (x < y) → V z nL k n (pc + 3) lv st κ I R J) : V z nL k n pc lv (.int y :: .int x :: st) κ I R J :=
  fun ls H locs hl hM hS => lv_icmp_lt hz.1.1 hz.1.2.1 dd ht (fun q => kt (by first | exact q | simpa using q) ls H locs hl hM hS) (fun q => kf (by first | exact q | simpa using q) ls H locs hl hM hS)
theorem v_icmp_ge (hz : Am z cc own nL d) (tgt : Nat) {x y : Int32} {off : Int} (dd : decode cc pc = .ok (.if_icmp .ge off, 3)) (ht : (pc : Int) + off = (tgt : Int))
    (kt : y ≤ x → V z nL k n tgt lv st κ I R J) (kf : ¬ (y ≤ x) → V z nL k n (pc + 3) lv st κ I R J) : V z nL k n pc lv (.int y :: .int x :: st) κ I R J :=
  fun ls H locs hl hM hS => lv_icmp_ge hz.1.1 hz.1.2.1 dd ht (fun q => kt (by first | exact q | simpa using q) ls H locs hl hM hS) (fun q => kf (by first | exact q | simpa using q) ls H locs hl hM hS)
theorem v_icmp_gt (hz : Am z cc own nL d) (tgt : Nat) {x y : Int32} {off : Int} (dd : decode cc pc = .ok (.if_icmp .gt off, 3)) (ht : (pc : Int) + off = (tgt : Int))
    (kt : y < x → V z nL k n tgt lv st κ I R J) (kf : ¬ (y < x) → V z nL k n (pc + 3) lv st κ I R J) : V z nL k n pc lv (.int y :: .int x :: st) κ I R J :=
  fun ls H locs hl hM hS => lv_icmp_gt hz.1.1 hz.1.2.1 dd ht (fun q => kt (by first | exact q | simpa using q) ls H locs hl hM hS) (fun q => kf (by first | exact q | simpa using q) ls H locs hl hM hS)
theorem v_icmp_le (hz : Am z cc own nL d) (tgt : Nat) {x y : Int32} {off : Int} (dd : decode cc pc = .ok (.if_icmp .le off, 3)) (ht : (pc : Int) + off = (tgt : Int))
    (kt : x ≤ y → V z nL k n tgt lv st κ I R J) (kf : ¬ (x ≤ y) → V z nL k n (pc + 3) lv st κ I R J) : V z nL k n pc lv (.int y :: .int x :: st) κ I R J :=
  fun ls H locs hl hM hS => lv_icmp_le hz.1.1 hz.1.2.1 dd ht (fun q => kt (by first | exact q | simpa using q) ls H locs hl hM hS) (fun q => kf (by first | exact q | simpa using q) ls H locs hl hM hS)
theorem v_goto (hz : Am z cc own nL d) (tgt : Nat) {off : Int} (dd : decode cc pc = .ok (.goto off, 3)) (ht : (pc : Int) + off = (tgt : Int))
    (h : V z nL k n tgt lv st κ I R J) : V z nL k n pc lv st κ I R J :=
  fun ls H locs hl hM hS => lv_goto hz.1.1 hz.1.2.1 dd ht (h ls H locs hl hM hS)
end VR
