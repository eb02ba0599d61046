/-! ===== the rows over natural numbers ===== -/
def bz (p : Prop) [Decidable p] : Int32 := if p then 1 else 0
theorem bz_t {p : Prop} [Decidable p] (h : p) : bz p = 1 := if_pos h
theorem bz_f {p : Prop} [Decidable p] (h : ¬ p) : bz p = 0 := if_neg h
theorem bz_01 {p : Prop} [Decidable p] : bz p = 0 ∨ bz p = 1 := by
  by_cases h : p
  · exact Or.inr (bz_t h)
  · exact Or.inl (bz_f h)
theorem bz_eq0 {p : Prop} [Decidable p] : bz p = 0 ↔ ¬ p := by
  by_cases h : p
  · rw [bz_t h]; simp [h]
  · rw [bz_f h]; simp [h]
theorem nI_zero_iff {a : Nat} (h : a < 2147483648) : nI a = 0 ↔ a = 0 := by
  have := nI_eq (a := a) (b := 0) h (by decide)
  rw [nI_0] at this
  exact this
theorem nI_zero_le {a : Nat} (h : a < 2147483648) : nI a ≤ 0 ↔ a ≤ 0 := by
  have := nI_leI (a := a) (b := 0) h (by decide)
  rw [nI_0] at this
  exact this
theorem nI_zero_lt {a : Nat} (h : a < 2147483648) : 0 < nI a ↔ 0 < a := by
  have := nI_ltI (a := 0) (b := a) (by decide) h
  rw [nI_0] at this
  exact this
section VN
variable {z : Zz} {cc : ByteArray} {own : String} {nL d k n pc : Nat} {lv : List (Nat × Value)} {st : List Value} {κ : Kz} {I : Iz} {R : Rz} {J : Jz}
theorem v_iaddN (hz : Am z cc own nL d) {a b : Nat} (dd : decode cc pc = .ok (.iadd, 1)) (h : V z nL k n (pc + 1) lv (.int (nI (a + b)) :: st) κ I R J) : V z nL k n pc lv (.int (nI b) :: .int (nI a) :: st) κ I R J :=
  v_iadd hz dd (by rw [nI_add]; exact h)
theorem v_isubN (hz : Am z cc own nL d) {a b : Nat} (hb : b ≤ a) (dd : decode cc pc = .ok (.isub, 1)) (h : V z nL k n (pc + 1) lv (.int (nI (a - b)) :: st) κ I R J) : V z nL k n pc lv (.int (nI b) :: .int (nI a) :: st) κ I R J :=
  v_isub hz dd (by rw [pk_sub hb]; exact h)
theorem v_imulN (hz : Am z cc own nL d) {a b : Nat} (dd : decode cc pc = .ok (.imul, 1)) (h : V z nL k n (pc + 1) lv (.int (nI (a * b)) :: st) κ I R J) : V z nL k n pc lv (.int (nI b) :: .int (nI a) :: st) κ I R J :=
  v_imul hz dd (by rw [pk_mul]; exact h)
theorem v_idivN (hz : Am z cc own nL d) {a b : Nat} (ha : a < 2147483648) (h0 : 0 < b) (hb : b < 2147483648) (dd : decode cc pc = .ok (.idiv, 1)) (h : V z nL k n (pc + 1) lv (.int (nI (a / b)) :: st) κ I R J) : V z nL k n pc lv (.int (nI b) :: .int (nI a) :: st) κ I R J :=
  v_idiv hz dd (nI_ne0 h0 hb) (by rw [pk_div ha h0 hb]; exact h)
theorem v_iremN (hz : Am z cc own nL d) {a b : Nat} (ha : a < 2147483648) (h0 : 0 < b) (hb : b < 2147483648) (dd : decode cc pc = .ok (.irem, 1)) (h : V z nL k n (pc + 1) lv (.int (nI (a % b)) :: st) κ I R J) : V z nL k n pc lv (.int (nI b) :: .int (nI a) :: st) κ I R J :=
  v_irem hz dd (nI_ne0 h0 hb) (by rw [pk_rem ha h0 hb]; exact h)
theorem v_iincN (hz : Am z cc own nL d) {i a : Nat} (m : Nat) {c : Int} (dd : decode cc pc = .ok (.iinc i c, 3)) (hc : Int32.ofInt c = nI m) (hx : lv.lookup i = some (.int (nI a))) (hn : i < nL) (hcl : clr lv i = true)
    (h : V z nL k n (pc + 3) ((i, .int (nI (a + m))) :: lv) st κ I R J) : V z nL k n pc lv st κ I R J :=
  v_iinc hz dd hx hn hcl (by rw [hc, nI_add]; exact h)
theorem v_idecN (hz : Am z cc own nL d) {i a : Nat} (m : Nat) {c : Int} (hm : m ≤ a) (dd : decode cc pc = .ok (.iinc i c, 3)) (hc : Int32.ofInt c = - nI m) (hx : lv.lookup i = some (.int (nI a))) (hn : i < nL) (hcl : clr lv i = true)
    (h : V z nL k n (pc + 3) ((i, .int (nI (a - m))) :: lv) st κ I R J) : V z nL k n pc lv st κ I R J :=
  v_iinc hz dd hx hn hcl (by rw [hc, ← Int32.sub_eq_add_neg, pk_sub hm]; exact h)
theorem v_ialdN (hz : Am z cc own nL d) {a j N : Nat} (hK : κ.1 a = 9) (hN : κ.2.1 a = N) (hj : j < N) (hb : N < 2147483648) (dd : decode cc pc = .ok (.iaload, 1))
    (h : V z nL k n (pc + 1) lv (.int (I a j) :: st) κ I R J) : V z nL k n pc lv (.int (nI j) :: .ref a :: st) κ I R J :=
  v_iald hz hK (by rw [hN]; exact vp_in_nI hj hb) dd (by rw [nI_clamp (by omega)]; exact h)
theorem v_zaldN (hz : Am z cc own nL d) {a j N : Nat} (hK : κ.1 a = 10) (hN : κ.2.1 a = N) (hj : j < N) (hb : N < 2147483648) (dd : decode cc pc = .ok (.baload, 1))
    (h : V z nL k n (pc + 1) lv (.int (I a j) :: st) κ I R J) : V z nL k n pc lv (.int (nI j) :: .ref a :: st) κ I R J :=
  v_zald hz hK (by rw [hN]; exact vp_in_nI hj hb) dd (by rw [nI_clamp (by omega)]; exact h)
theorem v_iastN (hz : Am z cc own nL d) {a j N : Nat} {x : Int32} (hK : κ.1 a = 9) (hN : κ.2.1 a = N) (hj : j < N) (hb : N < 2147483648) (dd : decode cc pc = .ok (.iastore, 1))
    (h : V z nL k n (pc + 1) lv st κ (u2 I a j x) R J) : V z nL k n pc lv (.int x :: .int (nI j) :: .ref a :: st) κ I R J :=
  v_iast hz hK (by rw [hN]; exact vp_in_nI hj hb) dd (by rw [nI_clamp (by omega)]; exact h)
theorem v_zastN (hz : Am z cc own nL d) {a j N : Nat} {x : Int32} (hK : κ.1 a = 10) (hN : κ.2.1 a = N) (hj : j < N) (hb : N < 2147483648) (hx : x = 0 ∨ x = 1) (dd : decode cc pc = .ok (.bastore, 1))
    (h : V z nL k n (pc + 1) lv st κ (u2 I a j x) R J) : V z nL k n pc lv (.int x :: .int (nI j) :: .ref a :: st) κ I R J :=
  v_zast hz hK hx (by rw [hN]; exact vp_in_nI hj hb) dd (by rw [nI_clamp (by omega)]; exact h)
theorem v_aaldN (hz : Am z cc own nL d) {a b j N : Nat} (hK : 11 ≤ κ.1 a ∧ κ.1 a < 15) (hN : κ.2.1 a = N) (hj : j < N) (hb : N < 2147483648) (hR : R a j = some b) (dd : decode cc pc = .ok (.aaload, 1))
    (h : V z nL k n (pc + 1) lv (.ref b :: st) κ I R J) : V z nL k n pc lv (.int (nI j) :: .ref a :: st) κ I R J :=
  v_aald hz hK (by rw [hN]; exact vp_in_nI hj hb) (by rw [nI_clamp (by omega)]; exact hR) dd h
theorem v_alenN (hz : Am z cc own nL d) {a N : Nat} (hK : 9 ≤ κ.1 a ∧ κ.1 a < 15) (hN : κ.2.1 a = N) (dd : decode cc pc = .ok (.arraylength, 1))
    (h : V z nL k n (pc + 1) lv (.int (nI N) :: st) κ I R J) : V z nL k n pc lv (.ref a :: st) κ I R J := v_alen hz hK dd (by rw [hN]; exact h)
/-- the top of the stack under another name -/
theorem v_top {x y : Int32} (e : x = y) (h : V z nL k n pc lv (.int y :: st) κ I R J) : V z nL k n pc lv (.int x :: st) κ I R J := e ▸ h
theorem v_top2 {x y x' y' : Int32} (e : x = x') (e2 : y = y') (h : V z nL k n pc lv (.int x' :: .int y' :: st) κ I R J) : V z nL k n pc lv (.int x :: .int y :: st) κ I R J := e ▸ e2 ▸ h
theorem v_mem {I' : Iz} (e : I = I') (h : V z nL k n pc lv st κ I' R J) : V z nL k n pc lv st κ I R J := e ▸ h
theorem v_if_eqB (hz : Am z cc own nL d) (tgt : Nat) {p : Prop} [Decidable p] {off : Int} (dd : decode cc pc = .ok (.ifCond .eq off, 3)) (ht : (pc : Int) + off = (tgt : Int))
    (kt : ¬ p → V z nL k n tgt lv st κ I R J) (kf : p → V z nL k n (pc + 3) lv st κ I R J) : V z nL k n pc lv (.int (bz p) :: st) κ I R J :=
  v_if_eq hz tgt dd ht (fun q => kt (bz_eq0.mp q)) (fun q => kf (Classical.not_not.mp fun q2 => q (bz_eq0.mpr q2)))
theorem v_if_neB (hz : Am z cc own nL d) (tgt : Nat) {p : Prop} [Decidable p] {off : Int} (dd : decode cc pc = .ok (.ifCond .ne off, 3)) (ht : (pc : Int) + off = (tgt : Int))
    (kt : p → V z nL k n tgt lv st κ I R J) (kf : ¬ p → V z nL k n (pc + 3) lv st κ I R J) : V z nL k n pc lv (.int (bz p) :: st) κ I R J :=
  v_if_ne hz tgt dd ht (fun q => kt (Classical.not_not.mp fun q2 => q (bz_eq0.mpr q2))) (fun q => kf (bz_eq0.mp (Classical.not_not.mp q)))
theorem v_if_eqN (hz : Am z cc own nL d) (tgt : Nat) {a : Nat} {off : Int} (ha : a < 2147483648) (dd : decode cc pc = .ok (.ifCond .eq off, 3)) (ht : (pc : Int) + off = (tgt : Int))
    (kt : a = 0 → V z nL k n tgt lv st κ I R J) (kf : ¬ (a = 0) → V z nL k n (pc + 3) lv st κ I R J) : V z nL k n pc lv (.int (nI a) :: st) κ I R J :=
  v_if_eq hz tgt dd ht (fun q => kt ((nI_zero_iff ha).mp q)) (fun q => kf (fun e => q ((nI_zero_iff ha).mpr e)))
theorem v_if_neN (hz : Am z cc own nL d) (tgt : Nat) {a : Nat} {off : Int} (ha : a < 2147483648) (dd : decode cc pc = .ok (.ifCond .ne off, 3)) (ht : (pc : Int) + off = (tgt : Int))
    (kt : a ≠ 0 → V z nL k n tgt lv st κ I R J) (kf : ¬ (a ≠ 0) → V z nL k n (pc + 3) lv st κ I R J) : V z nL k n pc lv (.int (nI a) :: st) κ I R J :=
  v_if_ne hz tgt dd ht (fun q => kt (fun e => q ((nI_zero_iff ha).mpr e))) (fun q => kf (fun e => q (fun e2 => e ((nI_zero_iff ha).mp e2))))
theorem v_if_gtN (hz : Am z cc own nL d) (tgt : Nat) {a : Nat} {off : Int} (ha : a < 2147483648) (dd : decode cc pc = .ok (.ifCond .gt off, 3)) (ht : (pc : Int) + off = (tgt : Int))
    (kt : 0 < a → V z nL k n tgt lv st κ I R J) (kf : ¬ (0 < a) → V z nL k n (pc + 3) lv st κ I R J) : V z nL k n pc lv (.int (nI a) :: st) κ I R J :=
  v_if_gt hz tgt dd ht (fun q => kt ((nI_zero_lt ha).mp q)) (fun q => kf (fun e => q ((nI_zero_lt ha).mpr e)))
theorem v_if_leN (hz : Am z cc own nL d) (tgt : Nat) {a : Nat} {off : Int} (ha : a < 2147483648) (dd : decode cc pc = .ok (.ifCond .le off, 3)) (ht : (pc : Int) + off = (tgt : Int))
    (kt : a ≤ 0 → V z nL k n tgt lv st κ I R J) (kf : ¬ (a ≤ 0) → V z nL k n (pc + 3) lv st κ I R J) : V z nL k n pc lv (.int (nI a) :: st) κ I R J :=
  v_if_le hz tgt dd ht (fun q => kt ((nI_zero_le ha).mp q)) (fun q => kf (fun e => q ((nI_zero_le ha).mpr e)))
theorem v_icmp_eqN (hz : Am z cc own nL d) (tgt : Nat) {a b : Nat} {off : Int} (ha : a < 2147483648) (hb : b < 2147483648) (dd : decode cc pc = .ok (.if_icmp .eq off, 3)) (ht : (pc : Int) + off = (tgt : Int))
    (kt : a = b → V z nL k n tgt lv st κ I R J) (kf : ¬ (a = b) → V z nL k n (pc + 3) lv st κ I R J) : V z nL k n pc lv (.int (nI b) :: .int (nI a) :: st) κ I R J :=
  v_icmp_eq hz tgt dd ht (fun q => kt ((nI_eq ha hb).mp q)) (fun q => kf (fun e => q ((nI_eq ha hb).mpr e)))
theorem v_icmp_neN (hz : Am z cc own nL d) (tgt : Nat) {a b : Nat} {off : Int} (ha : a < 2147483648) (hb : b < 2147483648) (dd : decode cc pc = .ok (.if_icmp .ne off, 3)) (ht : (pc : Int) + off = (tgt : Int))
    (kt : a ≠ b → V z nL k n tgt lv st κ I R J) (kf : ¬ (a ≠ b) → V z nL k n (pc + 3) lv st κ I R J) : V z nL k n pc lv (.int (nI b) :: .int (nI a) :: st) κ I R J :=
  v_icmp_ne hz tgt dd ht (fun q => kt (fun e => q ((nI_eq ha hb).mpr e))) (fun q => kf (fun e => q (fun e2 => e ((nI_eq ha hb).mp e2))))
theorem v_icmp_ltN (hz : Am z cc own nL d) (tgt : Nat) {a b : Nat} {off : Int} (ha : a < 2147483648) (hb : b < 2147483648) (dd : decode cc pc = .ok (.if_icmp .lt off, 3)) (ht : (pc : Int) + off = (tgt : Int))
    (kt : a < b → V z nL k n tgt lv st κ I R J) (kf : ¬ (a < b) → V z nL k n (pc + 3) lv st κ I R J) : V z nL k n pc lv (.int (nI b) :: .int (nI a) :: st) κ I R J :=
  v_icmp_lt hz tgt dd ht (fun q => kt ((nI_ltI ha hb).mp q)) (fun q => kf (fun e => q ((nI_ltI ha hb).mpr e)))
theorem v_icmp_geN (hz : Am z cc own nL d) (tgt : Nat) {a b : Nat} {off : Int} (ha : a < 2147483648) (hb : b < 2147483648) (dd : decode cc pc = .ok (.if_icmp .ge off, 3)) (ht : (pc : Int) + off = (tgt : Int))
    (kt : b ≤ a → V z nL k n tgt lv st κ I R J) (kf : ¬ (b ≤ a) → V z nL k n (pc + 3) lv st κ I R J) : V z nL k n pc lv (.int (nI b) :: .int (nI a) :: st) κ I R J :=
  v_icmp_ge hz tgt dd ht (fun q => kt ((nI_leI hb ha).mp q)) (fun q => kf (fun e => q ((nI_leI hb ha).mpr e)))
theorem v_icmp_gtN (hz : Am z cc own nL d) (tgt : Nat) {a b : Nat} {off : Int} (ha : a < 2147483648) (hb : b < 2147483648) (dd : decode cc pc = .ok (.if_icmp .gt off, 3)) (ht : (pc : Int) + off = (tgt : Int))
    (kt : b < a → V z nL k n tgt lv st κ I R J) (kf : ¬ (b < a) → V z nL k n (pc + 3) lv st κ I R J) : V z nL k n pc lv (.int (nI b) :: .int (nI a) :: st) κ I R J :=
  v_icmp_gt hz tgt dd ht (fun q => kt ((nI_ltI hb ha).mp q)) (fun q => kf (fun e => q ((nI_ltI hb ha).mpr e)))
theorem v_icmp_leN (hz : Am z cc own nL d) (tgt : Nat) {a b : Nat} {off : Int} (ha : a < 2147483648) (hb : b < 2147483648) (dd : decode cc pc = .ok (.if_icmp .le off, 3)) (ht : (pc : Int) + off = (tgt : Int))
    (kt : a ≤ b → V z nL k n tgt lv st κ I R J) (kf : ¬ (a ≤ b) → V z nL k n (pc + 3) lv st κ I R J) : V z nL k n pc lv (.int (nI b) :: .int (nI a) :: st) κ I R J :=
  v_icmp_le hz tgt dd ht (fun q => kt ((nI_leI ha hb).mp q)) (fun q => kf (fun e => q ((nI_leI ha hb).mpr e)))
end VN
section VT
variable {z : Zz} {cc : ByteArray} {own : String} {nL d k n pc : Nat} {lv : List (Nat × Value)} {st : List Value} {κ : Kz} {I : Iz} {R : Rz} {J : Jz}
/-- a switch over lo .. hi: where each number goes, and where every other one -/
theorem v_tsw (hz : Am z cc own nL d) (lo hi : Nat) (tl : List Nat) (td : Nat) {dflt lo' hi' : Int} {offs : Array Int} {len : Nat} {x : Int32} (dd : decode cc pc = .ok (.tableswitch dflt lo' hi' offs, len)) (hl : lo' = (lo : Int) ∧ hi' = (hi : Int)) (hhi : hi < 2147483648) (hd : (pc : Int) + dflt = (td : Int))
    (ho : ∀ j, j < hi + 1 - lo → (offs[j]?).map (fun o => (pc : Int) + o) = some ((tl.getD j 0 : Nat) : Int))
    (kin : ∀ j : Nat, lo ≤ j → j ≤ hi → x = nI j → V z nL k n (tl.getD (j - lo) 0) lv st κ I R J) (kout : ¬ (∃ j : Nat, lo ≤ j ∧ j ≤ hi ∧ x = nI j) → V z nL k n td lv st κ I R J) : V z nL k n pc lv (.int x :: st) κ I R J := by
  obtain ⟨rfl, rfl⟩ := hl
  intro ls H locs hls hM hS
  by_cases h1 : x.toInt < (lo : Int)
  · refine lv_tableOut hz.1.1 hz.1.2.1 dd (Or.inl h1) hd (kout ?_ ls H locs hls hM hS)
    rintro ⟨j, ha, hb, rfl⟩
    rw [nI_toInt (by omega)] at h1
    omega
  · by_cases h2 : (hi : Int) < x.toInt
    · refine lv_tableOut hz.1.1 hz.1.2.1 dd (Or.inr h2) hd (kout ?_ ls H locs hls hM hS)
      rintro ⟨j, ha, hb, rfl⟩
      rw [nI_toInt (by omega)] at h2
      omega
    · have hx0 : ¬ x < 0 := by
        intro h
        have := Int32.lt_iff_toInt_lt.mp h
        rw [show (0 : Int32).toInt = 0 from rfl] at this
        omega
      obtain ⟨j, hj, rfl⟩ := nI_of hx0
      have e : (nI j).toInt = (j : Int) := nI_toInt (by omega)
      rw [e] at h1 h2
      obtain ⟨off, h3, h4⟩ := Option.map_eq_some_iff.mp (ho (j - lo) (by omega))
      refine lv_tableIn hz.1.1 hz.1.2.1 dd (by rw [e]; exact h1) (by rw [e]; exact h2) (off := off) ?_ h4 (kin j (by omega) (by omega) rfl ls H locs hls hM hS)
      rw [e, show ((j : Int) - (lo : Int)).toNat = j - lo by omega]
      exact h3
theorem v_mmin (hz : Am z cc own nL d) {idx : Nat} (h1 : Cond.methodLink own idx Lib.Math.min.name ∈ tg) (h2 : Cond.static Lib.Math.min.name ∈ tg) (h3 : Cond.initialized "java/lang/Math" ∈ tg) (h4 : Cond.code Lib.Math.min.name Lib.Math.min.code 2 (some .int) ∈ tg) (hd : 1 ≤ d) (hrs : (st.map fun v => v.category).sum ≤ 8) (hroom : k ≤ (zR z).cells ∧ n ≤ (zR z).slots) {x y : Int32} (dd : decode cc pc = .ok (.invokestatic idx, 3))
    (h : V z nL k n (pc + 3) lv (.int (if y < x then y else x) :: st) κ I R J) : V z nL k n pc lv (.int y :: .int x :: st) κ I R J := by
  obtain ⟨⟨hexec, hb, hml, hown, hts⟩, hKK, hlo, hd1, hd2⟩ := hz
  intro ls H locs hl hM hS
  exact va_mmin hexec hb (hml.trans hl.1.symm) hown (hts _ h1) (hts _ h2) (hts _ h3) (hts _ h4) (by omega) (by omega) hroom.1 hroom.2 dd (h ls H locs hl hM hS)
theorem v_mabs (hz : Am z cc own nL d) {idx : Nat} (h1 : Cond.methodLink own idx Lib.Math.abs.name ∈ tg) (h2 : Cond.static Lib.Math.abs.name ∈ tg) (h3 : Cond.initialized "java/lang/Math" ∈ tg) (h4 : Cond.code Lib.Math.abs.name Lib.Math.abs.code 1 (some .int) ∈ tg) (hd : 1 ≤ d) (hrs : (st.map fun v => v.category).sum ≤ 8) (hroom : k ≤ (zR z).cells ∧ n ≤ (zR z).slots) {x : Int32} (dd : decode cc pc = .ok (.invokestatic idx, 3))
    (h : V z nL k n (pc + 3) lv (.int (if 0 ≤ x then x else 0 - x) :: st) κ I R J) : V z nL k n pc lv (.int x :: st) κ I R J := by
  obtain ⟨⟨hexec, hb, hml, hown, hts⟩, hKK, hlo, hd1, hd2⟩ := hz
  intro ls H locs hl hM hS
  exact va_mabs hexec hb (hml.trans hl.1.symm) hown (hts _ h1) (hts _ h2) (hts _ h3) (hts _ h4) (by omega) (by omega) hroom.1 hroom.2 dd (h ls H locs hl hM hS)
end VT
theorem v_sub {z : Zz} {nL k n pc : Nat} {lv lv' : List (Nat × Value)} {st : List Value} {κ : Kz} {I : Iz} {R : Rz} {J : Jz} (h : V z nL k n pc lv' st κ I R J) (hs : subl lv' lv) : V z nL k n pc lv st κ I R J := v_loc hs h
theorem v_iincE {z : Zz} {cc : ByteArray} {own : String} {nL d k n pc : Nat} {lv : List (Nat × Value)} {st : List Value} {κ : Kz} {I : Iz} {R : Rz} {J : Jz} (hz : Am z cc own nL d) {i : Nat} {c : Int} {x v : Int32} (dd : decode cc pc = .ok (.iinc i c, 3)) (hx : lv.lookup i = some (.int x)) (e : x + Int32.ofInt c = v) (hn : i < nL) (hcl : clr lv i = true)
    (h : V z nL k n (pc + 3) ((i, .int v) :: lv) st κ I R J) : V z nL k n pc lv st κ I R J := v_iinc hz dd hx hn hcl (e ▸ h)
/-- a number that goes down to -1: one more than it is -/
def ip : Nat → Int32
  | 0 => -1
  | p + 1 => nI p
theorem ip_dec (p : Nat) : nI p + Int32.ofInt (-1) = ip p := by
  cases p with
  | zero => rfl
  | succ p => exact pk_m1 p
/-- all but the rows of these tags is as it was -/
def Fm (ts : List Nat) (A : Nat → Nat) (I I1 : Iz) : Prop := ∀ b, (∀ t ∈ ts, b ≠ A t) → I1 b = I b
theorem Fm.rf {ts : List Nat} {A : Nat → Nat} {I : Iz} : Fm ts A I I := fun _ _ => rfl
theorem Fm.tr {ts us vs : List Nat} {A : Nat → Nat} {I I1 I2 : Iz} (h : Fm ts A I I1) (h' : Fm us A I1 I2) (h1 : ∀ t ∈ ts, t ∈ vs) (h2 : ∀ t ∈ us, t ∈ vs) : Fm vs A I I2 := fun b hb => (h' b (fun t ht => hb t (h2 t ht))).trans (h b (fun t ht => hb t (h1 t ht)))
theorem Fm.put {ts : List Nat} {A : Nat → Nat} {I I1 : Iz} {t k : Nat} {x : Int32} (h : Fm ts A I I1) (ht : t ∈ ts) : Fm ts A I (u2 I1 (A t) k x) := fun b hb => (u2_ne (hb t ht)).trans (h b hb)
theorem Fm.wid {ts vs : List Nat} {A : Nat → Nat} {I I1 : Iz} (h : Fm ts A I I1) (h1 : ∀ t ∈ ts, t ∈ vs) : Fm vs A I I1 := fun b hb => h b (fun t ht => hb t (h1 t ht))
