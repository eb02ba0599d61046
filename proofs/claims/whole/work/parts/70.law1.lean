/-! ===== the law: what stands at its entry, over the memory ===== -/
theorem nest_of {w : Cond} (hn : isNest w = true) {A : Array Value} {U : State} (h : w.before A U = true) : va_Nw w U := by
  cases w <;> first | exact va_Nw.of rfl h | cases hn
set_option maxHeartbeats 4000000 in
theorem kk_of {s : State} {args : Array Value} (hts : ∀ w ∈ lw_tbl, w.before args s = true) (lo : Nat) : ∃ g : Gz, g.2.2 = lo ∧ KKz g s := by
  have htg : ∀ w ∈ tg, w.before args s = true := fun w hw => hts w (List.mem_filter.mp hw).1
  have hcl : ∀ c : Nat, ∃ q : ClassId × (Nat → Nat), ∀ r : vw_C, vwCl[c]? = some r → u_Kn s r.1 r.2.1 r.2.2 q.1 q.2 := by
    intro c
    rcases (show c = 0 ∨ c = 1 ∨ c = 2 ∨ c = 3 ∨ c = 4 ∨ c = 5 ∨ c = 6 ∨ c = 7 ∨ c = 8 ∨ 9 ≤ c by omega) with rfl | rfl | rfl | rfl | rfl | rfl | rfl | rfl | rfl | h9
    · obtain ⟨cC, iS, h⟩ := u_known (n := 3) htg cl0.2.2.2.1 (htg _ (tg_mem 190 (by decide +kernel) rfl))
      exact ⟨(cC, iS), fun r hr => by
        cases Option.some.inj hr
        exact h⟩
    · obtain ⟨cC, iS, h⟩ := u_known (n := 14) htg cl1.2.2.2.1 (htg _ (tg_mem 208 (by decide +kernel) rfl))
      exact ⟨(cC, iS), fun r hr => by
        cases Option.some.inj hr
        exact h⟩
    · obtain ⟨cC, iS, h⟩ := u_known (n := 7) htg cl2.2.2.2.1 (htg _ (tg_mem 268 (by decide +kernel) rfl))
      exact ⟨(cC, iS), fun r hr => by
        cases Option.some.inj hr
        exact h⟩
    · obtain ⟨cC, iS, h⟩ := u_known (n := 2) htg cl3.2.2.2.1 (htg _ (tg_mem 176 (by decide +kernel) rfl))
      exact ⟨(cC, iS), fun r hr => by
        cases Option.some.inj hr
        exact h⟩
    · obtain ⟨cC, iS, h⟩ := u_known (n := 5) htg cl4.2.2.2.1 (htg _ (tg_mem 92 (by decide +kernel) rfl))
      exact ⟨(cC, iS), fun r hr => by
        cases Option.some.inj hr
        exact h⟩
    · obtain ⟨cC, iS, h⟩ := u_known (n := 6) htg cl5.2.2.2.1 (htg _ (tg_mem 120 (by decide +kernel) rfl))
      exact ⟨(cC, iS), fun r hr => by
        cases Option.some.inj hr
        exact h⟩
    · obtain ⟨cC, iS, h⟩ := u_known (n := 3) htg cl6.2.2.2.1 (htg _ (tg_mem 127 (by decide +kernel) rfl))
      exact ⟨(cC, iS), fun r hr => by
        cases Option.some.inj hr
        exact h⟩
    · obtain ⟨cC, iS, h⟩ := u_known (n := 14) htg cl7.2.2.2.1 (htg _ (tg_mem 84 (by decide +kernel) rfl))
      exact ⟨(cC, iS), fun r hr => by
        cases Option.some.inj hr
        exact h⟩
    · obtain ⟨cC, iS, h⟩ := u_known (n := 31) htg cl8.2.2.2.1 (htg _ (tg_mem 691 (by decide +kernel) rfl))
      exact ⟨(cC, iS), fun r hr => by
        cases Option.some.inj hr
        exact h⟩
    · exact ⟨(0, fun _ => 0), fun r hr => by
        rw [List.getElem?_eq_none (by show 9 ≤ c; exact h9)] at hr
        cases hr⟩
  obtain ⟨i9, k9, c9, a1, a2, a3⟩ := Cond.arrayClass_spec (show (Cond.arrayClass FieldType.int).before args s = true from htg _ (tg_mem 117 (by decide +kernel) rfl))
  obtain ⟨i10, k10, c10, b1, b2, b3⟩ := Cond.arrayClass_spec (show (Cond.arrayClass FieldType.boolean).before args s = true from htg _ (tg_mem 302 (by decide +kernel) rfl))
  have o11 : (Cond.arrayOver (.object RX1)).before args s = true := hts _ (List.mem_of_getElem? (i := 274) (by decide +kernel))
  have o12 : (Cond.arrayOver (.object RX5)).before args s = true := hts _ (List.mem_of_getElem? (i := 119) (by decide +kernel))
  have o13 : (Cond.arrayOver (.object RX6)).before args s = true := hts _ (List.mem_of_getElem? (i := 126) (by decide +kernel))
  have o14 : (Cond.arrayOver (.array FieldType.int)).before args s = true := hts _ (List.mem_of_getElem? (i := 196) (by decide +kernel))
  obtain ⟨d11, i11, k11, e1, -, e3, e4, e5⟩ := Cond.arrayOver_spec o11
  obtain ⟨d12, i12, k12, f1, -, f3, f4, f5⟩ := Cond.arrayOver_spec o12
  obtain ⟨d13, i13, k13, g1, -, g3, g4, g5⟩ := Cond.arrayOver_spec o13
  obtain ⟨d14, i14, k14, h1, -, h3, h4, h5⟩ := arrayOverA_spec o14
  refine ⟨((fun c => (Classical.choose (hcl c)).1, fun c => (Classical.choose (hcl c)).2), fun k => if k = 9 then i9 else if k = 10 then i10 else if k = 11 then i11 else if k = 12 then i12 else if k = 13 then i13 else i14, lo), rfl, ⟨fun c q hq => Classical.choose_spec (hcl c) q hq, fun k q hq => ?_⟩, fun w hw => nest_of (List.mem_filter.mp hw).2 (hts w (List.mem_filter.mp hw).1), o11, o12, o13, o14⟩
  rcases (show k = 0 ∨ k = 1 ∨ k = 2 ∨ k = 3 ∨ k = 4 ∨ k = 5 ∨ 6 ≤ k by omega) with rfl | rfl | rfl | rfl | rfl | rfl | h6
  · cases hq; exact ⟨fun N z => ⟨(fun k h => by cases h), k9, a2, c9, a3⟩, a1⟩
  · cases hq; exact ⟨fun N z => ⟨(fun k h => by cases h), k10, b2, c10, b3⟩, b1⟩
  · cases hq; exact ⟨fun N z => ⟨(fun k h => by cases h), k11, e3, d11, e4⟩, k11, d11, e3, e4, e1, e5⟩
  · cases hq; exact ⟨fun N z => ⟨(fun k h => by cases h), k12, f3, d12, f4⟩, k12, d12, f3, f4, f1, f5⟩
  · cases hq; exact ⟨fun N z => ⟨(fun k h => by cases h), k13, g3, d13, g4⟩, k13, d13, g3, g4, g1, g5⟩
  · cases hq; exact ⟨fun N z => ⟨(fun k h => by cases h), k14, h3, d14, h4⟩, h5⟩
  · rw [List.getElem?_eq_none (by show 6 ≤ k; exact h6)] at hq
    cases hq
/-- the law's walk: its room, its end, the script at b -/
def LW (z : Zz) (b L : Nat) (xs : Nat → Int32) : Prop := Am z cL_law RL 4 14 ∧ zR z = room_1 ∧ za z = #[Value.ref b] ∧ zq z = lw_Z (zb z) #[Value.ref b] (zs z) ∧ (zt z).sig.returnType = ret ∧ (zt z).locks = false ∧ va_X b L xs (zs z) (zs z).heap ∧ b < (zs z).heap.size ∧ (zg z).2.2 = (zs z).heap.size ∧ L ≤ 2560
section
variable {z : Zz} {b L k n pc : Nat} {xs : Nat → Int32} {lv : List (Nat × Value)} {st : List Value} {κ : Kz} {I : Iz} {R : Rz} {J : Jz}
theorem v_sld (hw : LW z b L xs) {j : Nat} (hj : j < L) (dd : decode cL_law pc = .ok (.iaload, 1)) (h : V z 4 k n (pc + 1) lv (.int (xs j) :: st) κ I R J) : V z 4 k n pc lv (.int (nI j) :: .ref b :: st) κ I R J := by
  obtain ⟨⟨⟨hexec, hb, -, hown, hts⟩, -, -, -, -⟩, -, -, -, -, -, hX, hbl, hlo, hL⟩ := hw
  intro ls H locs hl hM hS
  refine va_sld hexec hb hX hbl (show ¬ (zg z).2.2 ≤ b by omega) hS (ii_in hj (by omega)) dd ?_
  rw [nI_clamp (by omega)]
  exact h ls H locs hl hM hS
theorem v_slen (hw : LW z b L xs) (dd : decode cL_law pc = .ok (.arraylength, 1)) (h : V z 4 k n (pc + 1) lv (.int (nI L) :: st) κ I R J) : V z 4 k n pc lv (.ref b :: st) κ I R J := by
  obtain ⟨⟨⟨hexec, hb, -, hown, hts⟩, -, -, -, -⟩, -, -, -, -, -, hX, hbl, hlo, hL⟩ := hw
  intro ls H locs hl hM hS
  exact va_slen hexec hb hX hbl (show ¬ (zg z).2.2 ≤ b by omega) hS dd (h ls H locs hl hM hS)
theorem v_lawret (hw : LW z b L xs) (hk : k ≤ 600000) (hn : n ≤ 7302250) (dd : decode cL_law pc = .ok (.ireturn, 1)) : V z 4 k n pc lv [.int (nI 1)] κ I R J := by
  obtain ⟨⟨⟨hexec, hb, -, hown, hts⟩, -, -, -, -⟩, h1, h2, h3, h4, h5, hX, hbl, hlo, hL⟩ := hw
  intro ls H locs hl hM hS
  rw [h1, h2, h3]
  exact W.widen hk hn (va_forget (fun q hq => by rw [← hlo]; exact hS.2.2 q hq) (lw_ret hexec hb h4 h5 dd))
theorem v_lcmp {cc : ByteArray} {own : String} {nL d : Nat} (hz : Am z cc own nL d) {x y : Int64} (dd : decode cc pc = .ok (.lcmp, 1)) (h : V z nL k n (pc + 1) lv (.int (lg_cmp x y) :: st) κ I R J) : V z nL k n pc lv (.long y :: .long x :: st) κ I R J :=
  fun ls H locs hl hM hS => W.lcmp hz.1.1 hz.1.2.1 dd (h ls H locs hl hM hS)
end
