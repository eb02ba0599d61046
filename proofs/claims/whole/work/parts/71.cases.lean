/-! ===== the law: its twenty cases ===== -/
def Inv (κ : Kz) (R : Rz) (A sb : Nat → Nat) (I : Iz) (pg : Nat → Nat) (n kn : Nat) (ks : Nat → Sg) (tm : Nat → Int32) (T : Sg) (qa w bd : Nat) (te td : Int32) : Prop := LNg κ R A sb ∧ LM κ R A ∧ CS I A sb pg n kn ks tm T qa w bd te td ∧ MS I A pg n kn ks tm T qa w bd te td ∧ (∀ i, i < kn → okQ (ks i)) ∧ (0 < qa → okQ T)
def Nx (z : Zz) (k ns b i qa : Nat) (κ : Kz) (A : Nat → Nat) : Prop := ∀ (I' : Iz) (R' : Rz) (J' : Jz) (sb' : Nat → Nat) (pg' : Nat → Nat) (n' kn' : Nat) (ks' : Nat → Sg) (tm' : Nat → Int32) (T' : Sg) (qa' w' bd' : Nat) (te' td' : Int32), Inv κ R' A sb' I' pg' n' kn' ks' tm' T' qa' w' bd' te' td' → qa' ≤ qa + 1 → V z 4 k ns 659 [(0, .ref b), (1, .ref (A 9)), (2, .ref (A 130)), (3, .int (nI i))] [] κ I' R' J'
theorem isFs_ex (ks : Nat → Sg) (kn : Nat) (S : Sg) : ∃ f, isFs ks kn S f := by
  have h : ∀ m, m ≤ kn → (∃ f, f < m ∧ (∀ i, i < f → ¬ sameS (ks i) S) ∧ sameS (ks f) S) ∨ ∀ i, i < m → ¬ sameS (ks i) S := by
    intro m
    induction m with
    | zero => exact fun _ => Or.inr (fun i hi => absurd hi (Nat.not_lt_zero i))
    | succ m ih =>
      intro hm
      rcases ih (by omega) with ⟨f, h1, h2, h3⟩ | h1
      · exact Or.inl ⟨f, by omega, h2, h3⟩
      · by_cases e : sameS (ks m) S
        · exact Or.inl ⟨m, by omega, h1, e⟩
        · refine Or.inr (fun i hi => ?_)
          by_cases e2 : i = m
          · rw [e2]; exact e
          · exact h1 i (by omega)
  rcases h kn (Nat.le_refl _) with ⟨f, h1, h2, h3⟩ | h1
  · exact ⟨f, by omega, h2, fun _ => h3⟩
  · exact ⟨kn, Nat.le_refl _, h1, fun q => absurd q (Nat.lt_irrefl _)⟩
theorem okQ_up {ks : Nat → Sg} {kn : Nat} {S : Sg} (h : ∀ i, i < kn → okQ (ks i)) (hS : okQ S) : ∀ i, i < kn + 1 → okQ (va_up ks kn S i) := fun i hi => by
  by_cases e : i = kn
  · rw [e, vup_s]; exact hS
  · rw [vup_n e]; exact h i (by omega)
theorem okQ_dl {ks : Nat → Sg} {kn s : Nat} (h : ∀ i, i < kn → okQ (ks i)) : ∀ i, i < kn - 1 → okQ (dlt ks s i) := fun i hi => by
  unfold dlt
  by_cases e : i < s
  · rw [if_pos e]; exact h i (by omega)
  · rw [if_neg e]; exact h (i + 1) (by omega)
set_option maxHeartbeats 4000000 in
set_option maxRecDepth 100000 in
theorem lw_letter {z : Zz} {b L k ns i : Nat} {xs : Nat → Int32} {κ : Kz} {I : Iz} {R : Rz} {J : Jz} {A sb : Nat → Nat} {pg : Nat → Nat} {n kn : Nat} {ks : Nat → Sg} {tm : Nat → Int32} {T : Sg} {qa w bd : Nat} {te td : Int32} (hw : LW z b L xs) (hkc : k ≤ (zR z).cells) (hks : ns ≤ (zR z).slots) (hi : i + 5 ≤ L) (hA : ∀ t, 130 ≤ t → t < 160 → 130 ≤ κ.2.2 (A t) ∧ κ.2.2 (A t) < 160) (inv : Inv κ R A sb I pg n kn ks tm T qa w bd te td) (hqb : qa < 2147483648) (nx : Nx z k ns b i qa κ A) : V z 4 k ns 128 [(0, .ref b), (1, .ref (A 9)), (2, .ref (A 130)), (3, .int (nI i))] [] κ I R J := by
  have hz := hw.1
  obtain ⟨hn, hm, hcs, hms, hv, hvT⟩ := id inv
  have k9 := hn.1
  have k130 := hm.k
  refine v_aload_n hz dL_law_128 rfl ?_
  refine v_aload_n hz dL_law_129 rfl ?_
  refine v_iload_n hz dL_law_130 rfl ?_
  refine v_ic (v := nI 1) hz dL_law_131 (by decide) ?_
  first | with_reducible refine v_iaddN hz dL_law_132 ?_ | refine v_iadd hz dL_law_132 ?_
  refine v_sld hw (by omega) dL_law_133 ?_
  refine v_callVi hz lL_13 (cX7_letter_ok _ _ _ _ _ _ A sb hn pg n kn ks tm T qa w bd te td hcs  (xs (i + 1))) (by assumption) rfl rfl (Nat.le_of_ble_eq_true rfl) (by decide) ⟨hkc, hks⟩ dL_law_134 (fun r1 I1 q1 => ?_)
  obtain ⟨hF1, a1, a2⟩ := q1
  have hms1 := hms.ft hm hF1
  refine v_aload_n hz dL_law_137 rfl ?_
  refine v_aload_n hz dL_law_138 rfl ?_
  refine v_iload_n hz dL_law_139 rfl ?_
  refine v_ic (v := nI 1) hz dL_law_140 (by decide) ?_
  first | with_reducible refine v_iaddN hz dL_law_141 ?_ | refine v_iadd hz dL_law_141 ?_
  refine v_sld hw (by omega) dL_law_142 ?_
  refine v_callVi hz lL_17 (cX8_letter_ok _ _ _ _ _ _ A hm pg n kn ks tm T qa w bd te td hms1 (xs (i + 1))) (by assumption) rfl rfl (Nat.le_of_ble_eq_true rfl) (by decide) ⟨hkc, hks⟩ dL_law_143 (fun r2 I2 q2 => ?_)
  obtain ⟨hFo, b1, b2⟩ := q2
  have hFt := Fo.ft hA hFo
  have key : r1 = r2 ∧ ∃ (sb' : Nat → Nat) (pg' : Nat → Nat) (n' kn' : Nat) (ks' : Nat → Sg) (tm' : Nat → Int32) (T' : Sg) (qa' w' bd' : Nat) (te' td' : Int32), Inv κ R A sb' I2 pg' n' kn' ks' tm' T' qa' w' bd' te' td' ∧ qa' ≤ qa + 1 := by
    have hn48 := hcs.1.1
    by_cases h : (nI 32 ≤ xs (i + 1) ∧ xs (i + 1) ≤ nI 126)
    · by_cases h48 : n = 48
      · obtain ⟨a3, a4⟩ := (a2 h).1 h48
        obtain ⟨b3, b4⟩ := (b2 h).1 h48
        exact ⟨a3.trans b3.symm, sb, pg, n, kn, ks, tm, T, qa, w, bd, te, td, ⟨hn, hm, CS.ft hn hFt a4, b4, hv, hvT⟩, by omega⟩
      · obtain ⟨a3, a4⟩ := (a2 h).2 (by omega)
        obtain ⟨b3, b4⟩ := (b2 h).2 (by omega)
        exact ⟨a3.trans b3.symm, sb, _, _, kn, ks, tm, T, qa, w, bd, te, td, ⟨hn, hm, CS.ft hn hFt a4, b4, hv, hvT⟩, by omega⟩
    · obtain ⟨a3, a4⟩ := a1 h
      obtain ⟨b3, b4⟩ := b1 h
      exact ⟨a3.trans b3.symm, sb, pg, n, kn, ks, tm, T, qa, w, bd, te, td, ⟨hn, hm, CS.ft hn hFt a4, b4, hv, hvT⟩, by omega⟩
  refine v_icmp_eq hz 659 dL_law_146 (by decide) (fun c146 => ?_) (fun c146 => ?_)
  · obtain ⟨-, sb', pg', n', kn', ks', tm', T', qa', w', bd', te', td', hI, hq⟩ := key
    exact nx I2 R J sb' pg' n' kn' ks' tm' T' qa' w' bd' te' td' hI hq
  · exact absurd key.1 c146
set_option maxHeartbeats 4000000 in
set_option maxRecDepth 100000 in
theorem lw_blank {z : Zz} {b L k ns i : Nat} {xs : Nat → Int32} {κ : Kz} {I : Iz} {R : Rz} {J : Jz} {A sb : Nat → Nat} {pg : Nat → Nat} {n kn : Nat} {ks : Nat → Sg} {tm : Nat → Int32} {T : Sg} {qa w bd : Nat} {te td : Int32} (hw : LW z b L xs) (hkc : k ≤ (zR z).cells) (hks : ns ≤ (zR z).slots) (hi : i + 5 ≤ L) (hA : ∀ t, 130 ≤ t → t < 160 → 130 ≤ κ.2.2 (A t) ∧ κ.2.2 (A t) < 160) (inv : Inv κ R A sb I pg n kn ks tm T qa w bd te td) (hqb : qa < 2147483648) (nx : Nx z k ns b i qa κ A) : V z 4 k ns 151 [(0, .ref b), (1, .ref (A 9)), (2, .ref (A 130)), (3, .int (nI i))] [] κ I R J := by
  have hz := hw.1
  obtain ⟨hn, hm, hcs, hms, hv, hvT⟩ := id inv
  have k9 := hn.1
  have k130 := hm.k
  refine v_aload_n hz dL_law_151 rfl ?_
  refine v_callVi hz lL_18 (cX7_blank_ok _ _ _ _ _ _ A sb hn pg n kn ks tm T qa w bd te td hcs  ) (by assumption) rfl rfl (Nat.le_of_ble_eq_true rfl) (by decide) ⟨hkc, hks⟩ dL_law_152 (fun r1 I1 q1 => ?_)
  obtain ⟨hF1, a1, a2⟩ := q1
  have hms1 := hms.ft hm hF1
  refine v_aload_n hz dL_law_155 rfl ?_
  refine v_callVi hz lL_22 (cX8_blank_ok _ _ _ _ _ _ A hm pg n kn ks tm T qa w bd te td hms1 ) (by assumption) rfl rfl (Nat.le_of_ble_eq_true rfl) (by decide) ⟨hkc, hks⟩ dL_law_156 (fun r2 I2 q2 => ?_)
  obtain ⟨hFo, b1, b2⟩ := q2
  have hFt := Fo.ft hA hFo
  have key : r1 = r2 ∧ ∃ (sb' : Nat → Nat) (pg' : Nat → Nat) (n' kn' : Nat) (ks' : Nat → Sg) (tm' : Nat → Int32) (T' : Sg) (qa' w' bd' : Nat) (te' td' : Int32), Inv κ R A sb' I2 pg' n' kn' ks' tm' T' qa' w' bd' te' td' ∧ qa' ≤ qa + 1 := by
    exact ⟨a1.trans b1.symm, sb, pg, _, kn, ks, tm, T, qa, w, bd, te, td, ⟨hn, hm, CS.ft hn hFt a2, b2, hv, hvT⟩, by omega⟩
  refine v_icmp_eq hz 659 dL_law_159 (by decide) (fun c159 => ?_) (fun c159 => ?_)
  · obtain ⟨-, sb', pg', n', kn', ks', tm', T', qa', w', bd', te', td', hI, hq⟩ := key
    exact nx I2 R J sb' pg' n' kn' ks' tm' T' qa' w' bd' te' td' hI hq
  · exact absurd key.1 c159
set_option maxHeartbeats 4000000 in
set_option maxRecDepth 100000 in
theorem lw_fault {z : Zz} {b L k ns i : Nat} {xs : Nat → Int32} {κ : Kz} {I : Iz} {R : Rz} {J : Jz} {A sb : Nat → Nat} {pg : Nat → Nat} {n kn : Nat} {ks : Nat → Sg} {tm : Nat → Int32} {T : Sg} {qa w bd : Nat} {te td : Int32} (hw : LW z b L xs) (hkc : k ≤ (zR z).cells) (hks : ns ≤ (zR z).slots) (hi : i + 5 ≤ L) (hA : ∀ t, 130 ≤ t → t < 160 → 130 ≤ κ.2.2 (A t) ∧ κ.2.2 (A t) < 160) (inv : Inv κ R A sb I pg n kn ks tm T qa w bd te td) (hqb : qa < 2147483648) (nx : Nx z k ns b i qa κ A) : V z 4 k ns 164 [(0, .ref b), (1, .ref (A 9)), (2, .ref (A 130)), (3, .int (nI i))] [] κ I R J := by
  have hz := hw.1
  obtain ⟨hn, hm, hcs, hms, hv, hvT⟩ := id inv
  have k9 := hn.1
  have k130 := hm.k
  refine v_aload_n hz dL_law_164 rfl ?_
  refine v_callVi hz lL_23 (cX7_fault_ok _ _ _ _ _ _ A sb hn pg n kn ks tm T qa w bd te td hcs  ) (by assumption) rfl rfl (Nat.le_of_ble_eq_true rfl) (by decide) ⟨hkc, hks⟩ dL_law_165 (fun r1 I1 q1 => ?_)
  obtain ⟨hF1, a1, a2⟩ := q1
  have hms1 := hms.ft hm hF1
  refine v_aload_n hz dL_law_168 rfl ?_
  refine v_callVi hz lL_26 (cX8_fault_ok _ _ _ _ _ _ A hm n pg hms1.1 ) (by assumption) rfl rfl (Nat.le_of_ble_eq_true rfl) (by decide) ⟨hkc, hks⟩ dL_law_169 (fun r2 I2 q2 => ?_)
  obtain ⟨hRF, b1⟩ := q2
  have hFo := hRF.fo
  have b2 := hRF.ms hm hms1
  have hFt := Fo.ft hA hFo
  have key : r1 = r2 ∧ ∃ (sb' : Nat → Nat) (pg' : Nat → Nat) (n' kn' : Nat) (ks' : Nat → Sg) (tm' : Nat → Int32) (T' : Sg) (qa' w' bd' : Nat) (te' td' : Int32), Inv κ R A sb' I2 pg' n' kn' ks' tm' T' qa' w' bd' te' td' ∧ qa' ≤ qa + 1 := by
    obtain ⟨f, a3, a4⟩ := a1
    obtain ⟨f', b3, b4⟩ := b1
    have e := a4.one b4
    subst e
    exact ⟨a3.trans b3.symm, sb, pg, n, kn, ks, tm, T, qa, w, bd, te, td, ⟨hn, hm, CS.ft hn hFt a2, b2, hv, hvT⟩, by omega⟩
  refine v_icmp_eq hz 659 dL_law_172 (by decide) (fun c172 => ?_) (fun c172 => ?_)
  · obtain ⟨-, sb', pg', n', kn', ks', tm', T', qa', w', bd', te', td', hI, hq⟩ := key
    exact nx I2 R J sb' pg' n' kn' ks' tm' T' qa' w' bd' te' td' hI hq
  · exact absurd key.1 c172
set_option maxHeartbeats 4000000 in
set_option maxRecDepth 100000 in
theorem lw_keep {z : Zz} {b L k ns i : Nat} {xs : Nat → Int32} {κ : Kz} {I : Iz} {R : Rz} {J : Jz} {A sb : Nat → Nat} {pg : Nat → Nat} {n kn : Nat} {ks : Nat → Sg} {tm : Nat → Int32} {T : Sg} {qa w bd : Nat} {te td : Int32} (hw : LW z b L xs) (hkc : k ≤ (zR z).cells) (hks : ns ≤ (zR z).slots) (hi : i + 5 ≤ L) (hA : ∀ t, 130 ≤ t → t < 160 → 130 ≤ κ.2.2 (A t) ∧ κ.2.2 (A t) < 160) (inv : Inv κ R A sb I pg n kn ks tm T qa w bd te td) (hqb : qa < 2147483648) (nx : Nx z k ns b i qa κ A) : V z 4 k ns 177 [(0, .ref b), (1, .ref (A 9)), (2, .ref (A 130)), (3, .int (nI i))] [] κ I R J := by
  have hz := hw.1
  obtain ⟨hn, hm, hcs, hms, hv, hvT⟩ := id inv
  have k9 := hn.1
  have k130 := hm.k
  refine v_aload_n hz dL_law_177 rfl ?_
  refine v_callVi hz lL_27 (cX7_keep_ok _ _ _ _ _ _ A sb hn pg n kn ks tm T qa w bd te td hcs hv ) (by assumption) rfl rfl (Nat.le_of_ble_eq_true rfl) (by decide) ⟨hkc, hks⟩ dL_law_178 (fun r1 I1 q1 => ?_)
  obtain ⟨hF1, a1, a2⟩ := q1
  have hms1 := hms.ft hm hF1
  refine v_aload_n hz dL_law_181 rfl ?_
  refine v_callVi hz lL_30 (cX8_keep_ok _ _ _ _ _ _ A hm pg n kn ks tm T qa w bd te td hms1 hv ) (by assumption) rfl rfl (Nat.le_of_ble_eq_true rfl) (by decide) ⟨hkc, hks⟩ dL_law_182 (fun r2 I2 q2 => ?_)
  obtain ⟨hFo, b1, b2⟩ := q2
  have hFt := Fo.ft hA hFo
  have key : r1 = r2 ∧ ∃ (sb' : Nat → Nat) (pg' : Nat → Nat) (n' kn' : Nat) (ks' : Nat → Sg) (tm' : Nat → Int32) (T' : Sg) (qa' w' bd' : Nat) (te' td' : Int32), Inv κ R A sb' I2 pg' n' kn' ks' tm' T' qa' w' bd' te' td' ∧ qa' ≤ qa + 1 := by
    have hn48 := hcs.1.1
    by_cases h : segB pg n = true
    · obtain ⟨f, hf⟩ := isFs_ex ks kn (sgOf pg n)
      obtain ⟨a3, a4, a5⟩ := a2 h f hf
      obtain ⟨b3, b4, b5⟩ := b2 h f hf
      have hk12 := hcs.2.1.1
      have hfk := hf.1
      by_cases h12 : f = 12
      · obtain ⟨c1, c2⟩ := a3 h12
        obtain ⟨d1, d2⟩ := b3 h12
        exact ⟨c1.trans d1.symm, sb, pg, n, kn, ks, tm, T, qa, w, bd, te, td, ⟨hn, hm, CS.ft hn hFt c2, d2, hv, hvT⟩, by omega⟩
      · by_cases hlt : f < kn
        · obtain ⟨c1, c2⟩ := a4 hlt
          obtain ⟨d1, d2⟩ := b4 hlt
          exact ⟨c1.trans d1.symm, sb, pg, _, kn, ks, _, T, qa, w, bd, _, td, ⟨hn, hm, CS.ft hn hFt c2, d2, hv, hvT⟩, by omega⟩
        · obtain ⟨c1, c2⟩ := a5 (by omega) (by omega)
          obtain ⟨d1, d2⟩ := b5 (by omega) (by omega)
          exact ⟨c1.trans d1.symm, sb, pg, _, _, _, _, T, qa, w, bd, _, td, ⟨hn, hm, CS.ft hn hFt c2, d2, okQ_up hv (segB_okQ hn48 h), hvT⟩, by omega⟩
    · obtain ⟨a3, a4⟩ := a1 h
      obtain ⟨b3, b4⟩ := b1 h
      exact ⟨a3.trans b3.symm, sb, pg, n, kn, ks, tm, T, qa, w, bd, te, td, ⟨hn, hm, CS.ft hn hFt a4, b4, hv, hvT⟩, by omega⟩
  refine v_icmp_eq hz 659 dL_law_185 (by decide) (fun c185 => ?_) (fun c185 => ?_)
  · obtain ⟨-, sb', pg', n', kn', ks', tm', T', qa', w', bd', te', td', hI, hq⟩ := key
    exact nx I2 R J sb' pg' n' kn' ks' tm' T' qa' w' bd' te' td' hI hq
  · exact absurd key.1 c185
set_option maxHeartbeats 4000000 in
set_option maxRecDepth 100000 in
theorem lw_ask {z : Zz} {b L k ns i : Nat} {xs : Nat → Int32} {κ : Kz} {I : Iz} {R : Rz} {J : Jz} {A sb : Nat → Nat} {pg : Nat → Nat} {n kn : Nat} {ks : Nat → Sg} {tm : Nat → Int32} {T : Sg} {qa w bd : Nat} {te td : Int32} (hw : LW z b L xs) (hkc : k ≤ (zR z).cells) (hks : ns ≤ (zR z).slots) (hi : i + 5 ≤ L) (hA : ∀ t, 130 ≤ t → t < 160 → 130 ≤ κ.2.2 (A t) ∧ κ.2.2 (A t) < 160) (inv : Inv κ R A sb I pg n kn ks tm T qa w bd te td) (hqb : qa < 2147483648) (nx : Nx z k ns b i qa κ A) : V z 4 k ns 213 [(0, .ref b), (1, .ref (A 9)), (2, .ref (A 130)), (3, .int (nI i))] [] κ I R J := by
  have hz := hw.1
  obtain ⟨hn, hm, hcs, hms, hv, hvT⟩ := id inv
  have k9 := hn.1
  have k130 := hm.k
  refine v_aload_n hz dL_law_213 rfl ?_
  refine v_callVi hz lL_35 (cX7_ask_ok _ _ _ _ _ _ A sb hn pg n kn ks tm T qa w bd te td hcs  ) (by assumption) rfl rfl (Nat.le_of_ble_eq_true rfl) (by decide) ⟨hkc, hks⟩ dL_law_214 (fun r1 I1 q1 => ?_)
  obtain ⟨hF1, a1, a2⟩ := q1
  have hms1 := hms.ft hm hF1
  refine v_aload_n hz dL_law_217 rfl ?_
  refine v_callVi hz lL_38 (cX8_ask_ok _ _ _ _ _ _ A hm pg n kn ks tm T qa w bd te td hms1 ) (by assumption) rfl rfl (Nat.le_of_ble_eq_true rfl) (by decide) ⟨hkc, hks⟩ dL_law_218 (fun r2 I2 q2 => ?_)
  obtain ⟨hFo, b1, b2⟩ := q2
  have hFt := Fo.ft hA hFo
  have key : r1 = r2 ∧ ∃ (sb' : Nat → Nat) (pg' : Nat → Nat) (n' kn' : Nat) (ks' : Nat → Sg) (tm' : Nat → Int32) (T' : Sg) (qa' w' bd' : Nat) (te' td' : Int32), Inv κ R A sb' I2 pg' n' kn' ks' tm' T' qa' w' bd' te' td' ∧ qa' ≤ qa + 1 := by
    have hn48 := hcs.1.1
    by_cases h : segB pg n = true
    · obtain ⟨a3, a4⟩ := a2 h
      obtain ⟨b3, b4⟩ := b2 h
      exact ⟨a3.trans b3.symm, sb, pg, _, kn, ks, tm, _, _, w, bd, te, td, ⟨hn, hm, CS.ft hn hFt a4, b4, hv, (fun _ => segB_okQ hn48 h)⟩, by omega⟩
    · obtain ⟨a3, a4⟩ := a1 h
      obtain ⟨b3, b4⟩ := b1 h
      exact ⟨a3.trans b3.symm, sb, pg, n, kn, ks, tm, T, qa, w, bd, te, td, ⟨hn, hm, CS.ft hn hFt a4, b4, hv, hvT⟩, by omega⟩
  refine v_icmp_eq hz 659 dL_law_221 (by decide) (fun c221 => ?_) (fun c221 => ?_)
  · obtain ⟨-, sb', pg', n', kn', ks', tm', T', qa', w', bd', te', td', hI, hq⟩ := key
    exact nx I2 R J sb' pg' n' kn' ks' tm' T' qa' w' bd' te' td' hI hq
  · exact absurd key.1 c221
set_option maxHeartbeats 4000000 in
set_option maxRecDepth 100000 in
theorem lw_weight {z : Zz} {b L k ns i : Nat} {xs : Nat → Int32} {κ : Kz} {I : Iz} {R : Rz} {J : Jz} {A sb : Nat → Nat} {pg : Nat → Nat} {n kn : Nat} {ks : Nat → Sg} {tm : Nat → Int32} {T : Sg} {qa w bd : Nat} {te td : Int32} (hw : LW z b L xs) (hkc : k ≤ (zR z).cells) (hks : ns ≤ (zR z).slots) (hi : i + 5 ≤ L) (hA : ∀ t, 130 ≤ t → t < 160 → 130 ≤ κ.2.2 (A t) ∧ κ.2.2 (A t) < 160) (inv : Inv κ R A sb I pg n kn ks tm T qa w bd te td) (hqb : qa < 2147483648) (nx : Nx z k ns b i qa κ A) : V z 4 k ns 226 [(0, .ref b), (1, .ref (A 9)), (2, .ref (A 130)), (3, .int (nI i))] [] κ I R J := by
  have hz := hw.1
  obtain ⟨hn, hm, hcs, hms, hv, hvT⟩ := id inv
  have k9 := hn.1
  have k130 := hm.k
  refine v_aload_n hz dL_law_226 rfl ?_
  refine v_aload_n hz dL_law_227 rfl ?_
  refine v_iload_n hz dL_law_228 rfl ?_
  refine v_ic (v := nI 1) hz dL_law_229 (by decide) ?_
  first | with_reducible refine v_iaddN hz dL_law_230 ?_ | refine v_iadd hz dL_law_230 ?_
  refine v_sld hw (by omega) dL_law_231 ?_
  refine v_callVi hz lL_39 (cX7_weight_ok _ _ _ _ _ _ A sb hn pg n kn ks tm T qa w bd te td hcs  (xs (i + 1))) (by assumption) rfl rfl (Nat.le_of_ble_eq_true rfl) (by decide) ⟨hkc, hks⟩ dL_law_232 (fun r1 I1 q1 => ?_)
  obtain ⟨hF1, a1, a2⟩ := q1
  have hms1 := hms.ft hm hF1
  refine v_aload_n hz dL_law_235 rfl ?_
  refine v_aload_n hz dL_law_236 rfl ?_
  refine v_iload_n hz dL_law_237 rfl ?_
  refine v_ic (v := nI 1) hz dL_law_238 (by decide) ?_
  first | with_reducible refine v_iaddN hz dL_law_239 ?_ | refine v_iadd hz dL_law_239 ?_
  refine v_sld hw (by omega) dL_law_240 ?_
  refine v_callVi hz lL_42 (cX8_weight_ok _ _ _ _ _ _ A hm pg n kn ks tm T qa w bd te td hms1 (xs (i + 1))) (by assumption) rfl rfl (Nat.le_of_ble_eq_true rfl) (by decide) ⟨hkc, hks⟩ dL_law_241 (fun r2 I2 q2 => ?_)
  obtain ⟨hFo, b1, b2⟩ := q2
  have hFt := Fo.ft hA hFo
  have key : r1 = r2 ∧ ∃ (sb' : Nat → Nat) (pg' : Nat → Nat) (n' kn' : Nat) (ks' : Nat → Sg) (tm' : Nat → Int32) (T' : Sg) (qa' w' bd' : Nat) (te' td' : Int32), Inv κ R A sb' I2 pg' n' kn' ks' tm' T' qa' w' bd' te' td' ∧ qa' ≤ qa + 1 := by
    by_cases h : nI 1 ≤ xs (i + 1) ∧ xs (i + 1) ≤ nI 20
    · obtain ⟨a3, a4⟩ := a2 h
      obtain ⟨b3, b4⟩ := b2 h
      exact ⟨a3.trans b3.symm, sb, pg, n, kn, ks, tm, T, qa, _, bd, te, td, ⟨hn, hm, CS.ft hn hFt a4, b4, hv, hvT⟩, by omega⟩
    · obtain ⟨a3, a4⟩ := a1 h
      obtain ⟨b3, b4⟩ := b1 h
      exact ⟨a3.trans b3.symm, sb, pg, n, kn, ks, tm, T, qa, w, bd, te, td, ⟨hn, hm, CS.ft hn hFt a4, b4, hv, hvT⟩, by omega⟩
  refine v_icmp_eq hz 659 dL_law_244 (by decide) (fun c244 => ?_) (fun c244 => ?_)
  · obtain ⟨-, sb', pg', n', kn', ks', tm', T', qa', w', bd', te', td', hI, hq⟩ := key
    exact nx I2 R J sb' pg' n' kn' ks' tm' T' qa' w' bd' te' td' hI hq
  · exact absurd key.1 c244
set_option maxHeartbeats 4000000 in
set_option maxRecDepth 100000 in
theorem lw_bound {z : Zz} {b L k ns i : Nat} {xs : Nat → Int32} {κ : Kz} {I : Iz} {R : Rz} {J : Jz} {A sb : Nat → Nat} {pg : Nat → Nat} {n kn : Nat} {ks : Nat → Sg} {tm : Nat → Int32} {T : Sg} {qa w bd : Nat} {te td : Int32} (hw : LW z b L xs) (hkc : k ≤ (zR z).cells) (hks : ns ≤ (zR z).slots) (hi : i + 5 ≤ L) (hA : ∀ t, 130 ≤ t → t < 160 → 130 ≤ κ.2.2 (A t) ∧ κ.2.2 (A t) < 160) (inv : Inv κ R A sb I pg n kn ks tm T qa w bd te td) (hqb : qa < 2147483648) (nx : Nx z k ns b i qa κ A) : V z 4 k ns 249 [(0, .ref b), (1, .ref (A 9)), (2, .ref (A 130)), (3, .int (nI i))] [] κ I R J := by
  have hz := hw.1
  obtain ⟨hn, hm, hcs, hms, hv, hvT⟩ := id inv
  have k9 := hn.1
  have k130 := hm.k
  refine v_aload_n hz dL_law_249 rfl ?_
  refine v_aload_n hz dL_law_250 rfl ?_
  refine v_iload_n hz dL_law_251 rfl ?_
  refine v_ic (v := nI 1) hz dL_law_252 (by decide) ?_
  first | with_reducible refine v_iaddN hz dL_law_253 ?_ | refine v_iadd hz dL_law_253 ?_
  refine v_sld hw (by omega) dL_law_254 ?_
  refine v_callVi hz lL_43 (cX7_bound_ok _ _ _ _ _ _ A sb hn pg n kn ks tm T qa w bd te td hcs  (xs (i + 1))) (by assumption) rfl rfl (Nat.le_of_ble_eq_true rfl) (by decide) ⟨hkc, hks⟩ dL_law_255 (fun r1 I1 q1 => ?_)
  obtain ⟨hF1, a1, a2⟩ := q1
  have hms1 := hms.ft hm hF1
  refine v_aload_n hz dL_law_258 rfl ?_
  refine v_aload_n hz dL_law_259 rfl ?_
  refine v_iload_n hz dL_law_260 rfl ?_
  refine v_ic (v := nI 1) hz dL_law_261 (by decide) ?_
  first | with_reducible refine v_iaddN hz dL_law_262 ?_ | refine v_iadd hz dL_law_262 ?_
  refine v_sld hw (by omega) dL_law_263 ?_
  refine v_callVi hz lL_46 (cX8_bound_ok _ _ _ _ _ _ A hm pg n kn ks tm T qa w bd te td hms1 (xs (i + 1))) (by assumption) rfl rfl (Nat.le_of_ble_eq_true rfl) (by decide) ⟨hkc, hks⟩ dL_law_264 (fun r2 I2 q2 => ?_)
  obtain ⟨hFo, b1, b2⟩ := q2
  have hFt := Fo.ft hA hFo
  have key : r1 = r2 ∧ ∃ (sb' : Nat → Nat) (pg' : Nat → Nat) (n' kn' : Nat) (ks' : Nat → Sg) (tm' : Nat → Int32) (T' : Sg) (qa' w' bd' : Nat) (te' td' : Int32), Inv κ R A sb' I2 pg' n' kn' ks' tm' T' qa' w' bd' te' td' ∧ qa' ≤ qa + 1 := by
    by_cases h : nI 0 ≤ xs (i + 1) ∧ xs (i + 1) ≤ nI 1000
    · obtain ⟨a3, a4⟩ := a2 h
      obtain ⟨b3, b4⟩ := b2 h
      exact ⟨a3.trans b3.symm, sb, pg, n, kn, ks, tm, T, qa, w, _, te, td, ⟨hn, hm, CS.ft hn hFt a4, b4, hv, hvT⟩, by omega⟩
    · obtain ⟨a3, a4⟩ := a1 h
      obtain ⟨b3, b4⟩ := b1 h
      exact ⟨a3.trans b3.symm, sb, pg, n, kn, ks, tm, T, qa, w, bd, te, td, ⟨hn, hm, CS.ft hn hFt a4, b4, hv, hvT⟩, by omega⟩
  refine v_icmp_eq hz 659 dL_law_267 (by decide) (fun c267 => ?_) (fun c267 => ?_)
  · obtain ⟨-, sb', pg', n', kn', ks', tm', T', qa', w', bd', te', td', hI, hq⟩ := key
    exact nx I2 R J sb' pg' n' kn' ks' tm' T' qa' w' bd' te' td' hI hq
  · exact absurd key.1 c267
set_option maxHeartbeats 4000000 in
set_option maxRecDepth 100000 in
theorem lw_segment {z : Zz} {b L k ns i : Nat} {xs : Nat → Int32} {κ : Kz} {I : Iz} {R : Rz} {J : Jz} {A sb : Nat → Nat} {pg : Nat → Nat} {n kn : Nat} {ks : Nat → Sg} {tm : Nat → Int32} {T : Sg} {qa w bd : Nat} {te td : Int32} (hw : LW z b L xs) (hkc : k ≤ (zR z).cells) (hks : ns ≤ (zR z).slots) (hi : i + 5 ≤ L) (hA : ∀ t, 130 ≤ t → t < 160 → 130 ≤ κ.2.2 (A t) ∧ κ.2.2 (A t) < 160) (inv : Inv κ R A sb I pg n kn ks tm T qa w bd te td) (hqb : qa < 2147483648) (nx : Nx z k ns b i qa κ A) : V z 4 k ns 272 [(0, .ref b), (1, .ref (A 9)), (2, .ref (A 130)), (3, .int (nI i))] [] κ I R J := by
  have hz := hw.1
  obtain ⟨hn, hm, hcs, hms, hv, hvT⟩ := id inv
  have k9 := hn.1
  have k130 := hm.k
  refine v_aload_n hz dL_law_272 rfl ?_
  refine v_aload_n hz dL_law_273 rfl ?_
  refine v_iload_n hz dL_law_274 rfl ?_
  refine v_ic (v := nI 1) hz dL_law_275 (by decide) ?_
  first | with_reducible refine v_iaddN hz dL_law_276 ?_ | refine v_iadd hz dL_law_276 ?_
  refine v_sld hw (by omega) dL_law_277 ?_
  refine v_aload_n hz dL_law_278 rfl ?_
  refine v_iload_n hz dL_law_279 rfl ?_
  refine v_ic (v := nI 2) hz dL_law_280 (by decide) ?_
  first | with_reducible refine v_iaddN hz dL_law_281 ?_ | refine v_iadd hz dL_law_281 ?_
  refine v_sld hw (by omega) dL_law_282 ?_
  refine v_callVi hz lL_47 (cX7_segment_ok _ _ _ _ _ _ A sb hn pg n kn ks tm T qa w bd te td hcs  (xs (i + 1)) (xs (i + 2))) (by assumption) rfl rfl (Nat.le_of_ble_eq_true rfl) (by decide) ⟨hkc, hks⟩ dL_law_283 (fun r1 I1 q1 => ?_)
  obtain ⟨e1, eI1⟩ := q1
  have hF1 : Ft κ cT I I1 := by rw [eI1]; exact Ft.rf
  have hc1 : CS I1 A sb pg n kn ks tm T qa w bd te td := by rw [eI1]; exact hcs
  have hms1 := hms.ft hm hF1
  refine v_aload_n hz dL_law_286 rfl ?_
  refine v_aload_n hz dL_law_287 rfl ?_
  refine v_iload_n hz dL_law_288 rfl ?_
  refine v_ic (v := nI 1) hz dL_law_289 (by decide) ?_
  first | with_reducible refine v_iaddN hz dL_law_290 ?_ | refine v_iadd hz dL_law_290 ?_
  refine v_sld hw (by omega) dL_law_291 ?_
  refine v_aload_n hz dL_law_292 rfl ?_
  refine v_iload_n hz dL_law_293 rfl ?_
  refine v_ic (v := nI 2) hz dL_law_294 (by decide) ?_
  first | with_reducible refine v_iaddN hz dL_law_295 ?_ | refine v_iadd hz dL_law_295 ?_
  refine v_sld hw (by omega) dL_law_296 ?_
  refine v_callVi hz lL_51 (cX8_segment_ok _ _ _ _ _ _ A hm pg n kn ks tm T qa w bd te td hms1 (xs (i + 1)) (xs (i + 2))) (by assumption) rfl rfl (Nat.le_of_ble_eq_true rfl) (by decide) ⟨hkc, hks⟩ dL_law_297 (fun r2 I2 q2 => ?_)
  obtain ⟨e2, eI2⟩ := q2
  have hFo : Fo A I1 I2 := by rw [eI2]; exact Fo.rf
  have hm2 : MS I2 A pg n kn ks tm T qa w bd te td := by rw [eI2]; exact hms1
  have hFt := Fo.ft hA hFo
  have key : r1 = r2 ∧ ∃ (sb' : Nat → Nat) (pg' : Nat → Nat) (n' kn' : Nat) (ks' : Nat → Sg) (tm' : Nat → Int32) (T' : Sg) (qa' w' bd' : Nat) (te' td' : Int32), Inv κ R A sb' I2 pg' n' kn' ks' tm' T' qa' w' bd' te' td' ∧ qa' ≤ qa + 1 := by
    exact ⟨e1.trans e2.symm, sb, pg, n, kn, ks, tm, T, qa, w, bd, te, td, ⟨hn, hm, CS.ft hn hFt hc1, hm2, hv, hvT⟩, by omega⟩
  refine v_icmp_eq hz 659 dL_law_300 (by decide) (fun c300 => ?_) (fun c300 => ?_)
  · obtain ⟨-, sb', pg', n', kn', ks', tm', T', qa', w', bd', te', td', hI, hq⟩ := key
    exact nx I2 R J sb' pg' n' kn' ks' tm' T' qa' w' bd' te' td' hI hq
  · exact absurd key.1 c300
set_option maxHeartbeats 4000000 in
set_option maxRecDepth 100000 in
theorem lw_sign {z : Zz} {b L k ns i : Nat} {xs : Nat → Int32} {κ : Kz} {I : Iz} {R : Rz} {J : Jz} {A sb : Nat → Nat} {pg : Nat → Nat} {n kn : Nat} {ks : Nat → Sg} {tm : Nat → Int32} {T : Sg} {qa w bd : Nat} {te td : Int32} (hw : LW z b L xs) (hkc : k ≤ (zR z).cells) (hks : ns ≤ (zR z).slots) (hi : i + 5 ≤ L) (hA : ∀ t, 130 ≤ t → t < 160 → 130 ≤ κ.2.2 (A t) ∧ κ.2.2 (A t) < 160) (inv : Inv κ R A sb I pg n kn ks tm T qa w bd te td) (hqb : qa < 2147483648) (nx : Nx z k ns b i qa κ A) : V z 4 k ns 305 [(0, .ref b), (1, .ref (A 9)), (2, .ref (A 130)), (3, .int (nI i))] [] κ I R J := by
  have hz := hw.1
  obtain ⟨hn, hm, hcs, hms, hv, hvT⟩ := id inv
  have k9 := hn.1
  have k130 := hm.k
  refine v_aload_n hz dL_law_305 rfl ?_
  refine v_aload_n hz dL_law_306 rfl ?_
  refine v_iload_n hz dL_law_307 rfl ?_
  refine v_ic (v := nI 1) hz dL_law_308 (by decide) ?_
  first | with_reducible refine v_iaddN hz dL_law_309 ?_ | refine v_iadd hz dL_law_309 ?_
  refine v_sld hw (by omega) dL_law_310 ?_
  refine v_aload_n hz dL_law_311 rfl ?_
  refine v_iload_n hz dL_law_312 rfl ?_
  refine v_ic (v := nI 2) hz dL_law_313 (by decide) ?_
  first | with_reducible refine v_iaddN hz dL_law_314 ?_ | refine v_iadd hz dL_law_314 ?_
  refine v_sld hw (by omega) dL_law_315 ?_
  refine v_aload_n hz dL_law_316 rfl ?_
  refine v_iload_n hz dL_law_317 rfl ?_
  refine v_ic (v := nI 3) hz dL_law_318 (by decide) ?_
  first | with_reducible refine v_iaddN hz dL_law_319 ?_ | refine v_iadd hz dL_law_319 ?_
  refine v_sld hw (by omega) dL_law_320 ?_
  refine v_callVi hz lL_52 (cX7_sign_ok _ _ _ _ _ _ A sb hn pg n kn ks tm T qa w bd te td hcs  (xs (i + 1)) (xs (i + 2)) (xs (i + 3))) (by assumption) rfl rfl (Nat.le_of_ble_eq_true rfl) (by decide) ⟨hkc, hks⟩ dL_law_321 (fun r1 I1 q1 => ?_)
  obtain ⟨e1, eI1⟩ := q1
  have hF1 : Ft κ cT I I1 := by rw [eI1]; exact Ft.rf
  have hc1 : CS I1 A sb pg n kn ks tm T qa w bd te td := by rw [eI1]; exact hcs
  have hms1 := hms.ft hm hF1
  refine v_aload_n hz dL_law_324 rfl ?_
  refine v_aload_n hz dL_law_325 rfl ?_
  refine v_iload_n hz dL_law_326 rfl ?_
  refine v_ic (v := nI 1) hz dL_law_327 (by decide) ?_
  first | with_reducible refine v_iaddN hz dL_law_328 ?_ | refine v_iadd hz dL_law_328 ?_
  refine v_sld hw (by omega) dL_law_329 ?_
  refine v_aload_n hz dL_law_330 rfl ?_
  refine v_iload_n hz dL_law_331 rfl ?_
  refine v_ic (v := nI 2) hz dL_law_332 (by decide) ?_
  first | with_reducible refine v_iaddN hz dL_law_333 ?_ | refine v_iadd hz dL_law_333 ?_
  refine v_sld hw (by omega) dL_law_334 ?_
  refine v_aload_n hz dL_law_335 rfl ?_
  refine v_iload_n hz dL_law_336 rfl ?_
  refine v_ic (v := nI 3) hz dL_law_337 (by decide) ?_
  first | with_reducible refine v_iaddN hz dL_law_338 ?_ | refine v_iadd hz dL_law_338 ?_
  refine v_sld hw (by omega) dL_law_339 ?_
  refine v_callVi hz lL_56 (cX8_sign_ok _ _ _ _ _ _ A hm pg n kn ks tm T qa w bd te td hms1 hv (xs (i + 1)) (xs (i + 2)) (xs (i + 3))) (by assumption) rfl rfl (Nat.le_of_ble_eq_true rfl) (by decide) ⟨hkc, hks⟩ dL_law_340 (fun r2 I2 q2 => ?_)
  obtain ⟨e2, eI2⟩ := q2
  have hFo : Fo A I1 I2 := by rw [eI2]; exact Fo.rf
  have hm2 : MS I2 A pg n kn ks tm T qa w bd te td := by rw [eI2]; exact hms1
  have hFt := Fo.ft hA hFo
  have key : r1 = r2 ∧ ∃ (sb' : Nat → Nat) (pg' : Nat → Nat) (n' kn' : Nat) (ks' : Nat → Sg) (tm' : Nat → Int32) (T' : Sg) (qa' w' bd' : Nat) (te' td' : Int32), Inv κ R A sb' I2 pg' n' kn' ks' tm' T' qa' w' bd' te' td' ∧ qa' ≤ qa + 1 := by
    exact ⟨e1.trans e2.symm, sb, pg, n, kn, ks, tm, T, qa, w, bd, te, td, ⟨hn, hm, CS.ft hn hFt hc1, hm2, hv, hvT⟩, by omega⟩
  refine v_icmp_eq hz 659 dL_law_343 (by decide) (fun c343 => ?_) (fun c343 => ?_)
  · obtain ⟨-, sb', pg', n', kn', ks', tm', T', qa', w', bd', te', td', hI, hq⟩ := key
    exact nx I2 R J sb' pg' n' kn' ks' tm' T' qa' w' bd' te' td' hI hq
  · exact absurd key.1 c343
set_option maxHeartbeats 4000000 in
set_option maxRecDepth 100000 in
theorem lw_alike {z : Zz} {b L k ns i : Nat} {xs : Nat → Int32} {κ : Kz} {I : Iz} {R : Rz} {J : Jz} {A sb : Nat → Nat} {pg : Nat → Nat} {n kn : Nat} {ks : Nat → Sg} {tm : Nat → Int32} {T : Sg} {qa w bd : Nat} {te td : Int32} (hw : LW z b L xs) (hkc : k ≤ (zR z).cells) (hks : ns ≤ (zR z).slots) (hi : i + 5 ≤ L) (hA : ∀ t, 130 ≤ t → t < 160 → 130 ≤ κ.2.2 (A t) ∧ κ.2.2 (A t) < 160) (inv : Inv κ R A sb I pg n kn ks tm T qa w bd te td) (hqb : qa < 2147483648) (nx : Nx z k ns b i qa κ A) : V z 4 k ns 348 [(0, .ref b), (1, .ref (A 9)), (2, .ref (A 130)), (3, .int (nI i))] [] κ I R J := by
  have hz := hw.1
  obtain ⟨hn, hm, hcs, hms, hv, hvT⟩ := id inv
  have k9 := hn.1
  have k130 := hm.k
  refine v_aload_n hz dL_law_348 rfl ?_
  refine v_aload_n hz dL_law_349 rfl ?_
  refine v_iload_n hz dL_law_350 rfl ?_
  refine v_ic (v := nI 1) hz dL_law_351 (by decide) ?_
  first | with_reducible refine v_iaddN hz dL_law_352 ?_ | refine v_iadd hz dL_law_352 ?_
  refine v_sld hw (by omega) dL_law_353 ?_
  refine v_aload_n hz dL_law_354 rfl ?_
  refine v_iload_n hz dL_law_355 rfl ?_
  refine v_ic (v := nI 2) hz dL_law_356 (by decide) ?_
  first | with_reducible refine v_iaddN hz dL_law_357 ?_ | refine v_iadd hz dL_law_357 ?_
  refine v_sld hw (by omega) dL_law_358 ?_
  refine v_aload_n hz dL_law_359 rfl ?_
  refine v_iload_n hz dL_law_360 rfl ?_
  refine v_ic (v := nI 3) hz dL_law_361 (by decide) ?_
  first | with_reducible refine v_iaddN hz dL_law_362 ?_ | refine v_iadd hz dL_law_362 ?_
  refine v_sld hw (by omega) dL_law_363 ?_
  refine v_aload_n hz dL_law_364 rfl ?_
  refine v_iload_n hz dL_law_365 rfl ?_
  refine v_ic (v := nI 4) hz dL_law_366 (by decide) ?_
  first | with_reducible refine v_iaddN hz dL_law_367 ?_ | refine v_iadd hz dL_law_367 ?_
  refine v_sld hw (by omega) dL_law_368 ?_
  refine v_callVi hz lL_57 (cX7_alike_ok _ _ _ _ _ _ A sb hn pg n kn ks tm T qa w bd te td hcs  (xs (i + 1)) (xs (i + 2)) (xs (i + 3)) (xs (i + 4))) (by assumption) rfl rfl (Nat.le_of_ble_eq_true rfl) (by decide) ⟨hkc, hks⟩ dL_law_369 (fun r1 I1 q1 => ?_)
  obtain ⟨e1, hF1, hc1⟩ := q1
  have hms1 := hms.ft hm hF1
  refine v_aload_n hz dL_law_372 rfl ?_
  refine v_aload_n hz dL_law_373 rfl ?_
  refine v_iload_n hz dL_law_374 rfl ?_
  refine v_ic (v := nI 1) hz dL_law_375 (by decide) ?_
  first | with_reducible refine v_iaddN hz dL_law_376 ?_ | refine v_iadd hz dL_law_376 ?_
  refine v_sld hw (by omega) dL_law_377 ?_
  refine v_aload_n hz dL_law_378 rfl ?_
  refine v_iload_n hz dL_law_379 rfl ?_
  refine v_ic (v := nI 2) hz dL_law_380 (by decide) ?_
  first | with_reducible refine v_iaddN hz dL_law_381 ?_ | refine v_iadd hz dL_law_381 ?_
  refine v_sld hw (by omega) dL_law_382 ?_
  refine v_aload_n hz dL_law_383 rfl ?_
  refine v_iload_n hz dL_law_384 rfl ?_
  refine v_ic (v := nI 3) hz dL_law_385 (by decide) ?_
  first | with_reducible refine v_iaddN hz dL_law_386 ?_ | refine v_iadd hz dL_law_386 ?_
  refine v_sld hw (by omega) dL_law_387 ?_
  refine v_aload_n hz dL_law_388 rfl ?_
  refine v_iload_n hz dL_law_389 rfl ?_
  refine v_ic (v := nI 4) hz dL_law_390 (by decide) ?_
  first | with_reducible refine v_iaddN hz dL_law_391 ?_ | refine v_iadd hz dL_law_391 ?_
  refine v_sld hw (by omega) dL_law_392 ?_
  refine v_callVi hz lL_61 (cX8_alike_ok _ _ _ _ _ _ A hm pg n kn ks tm T qa w bd te td hms1 hv (xs (i + 1)) (xs (i + 2)) (xs (i + 3)) (xs (i + 4))) (by assumption) rfl rfl (Nat.le_of_ble_eq_true rfl) (by decide) ⟨hkc, hks⟩ dL_law_393 (fun r2 I2 q2 => ?_)
  obtain ⟨e2, hQ⟩ := q2
  have hFo := hQ.fo
  have hm2 := hQ.ms hm hms1
  have hFt := Fo.ft hA hFo
  have key : r1 = r2 ∧ ∃ (sb' : Nat → Nat) (pg' : Nat → Nat) (n' kn' : Nat) (ks' : Nat → Sg) (tm' : Nat → Int32) (T' : Sg) (qa' w' bd' : Nat) (te' td' : Int32), Inv κ R A sb' I2 pg' n' kn' ks' tm' T' qa' w' bd' te' td' ∧ qa' ≤ qa + 1 := by
    exact ⟨e1.trans e2.symm, sb, pg, n, kn, ks, tm, T, qa, w, bd, te, td, ⟨hn, hm, CS.ft hn hFt hc1, hm2, hv, hvT⟩, by omega⟩
  refine v_icmp_eq hz 659 dL_law_396 (by decide) (fun c396 => ?_) (fun c396 => ?_)
  · obtain ⟨-, sb', pg', n', kn', ks', tm', T', qa', w', bd', te', td', hI, hq⟩ := key
    exact nx I2 R J sb' pg' n' kn' ks' tm' T' qa' w' bd' te' td' hI hq
  · exact absurd key.1 c396
set_option maxHeartbeats 4000000 in
set_option maxRecDepth 100000 in
theorem lw_two {z : Zz} {b L k ns i : Nat} {xs : Nat → Int32} {κ : Kz} {I : Iz} {R : Rz} {J : Jz} {A sb : Nat → Nat} {pg : Nat → Nat} {n kn : Nat} {ks : Nat → Sg} {tm : Nat → Int32} {T : Sg} {qa w bd : Nat} {te td : Int32} (hw : LW z b L xs) (hkc : k ≤ (zR z).cells) (hks : ns ≤ (zR z).slots) (hi : i + 5 ≤ L) (hA : ∀ t, 130 ≤ t → t < 160 → 130 ≤ κ.2.2 (A t) ∧ κ.2.2 (A t) < 160) (inv : Inv κ R A sb I pg n kn ks tm T qa w bd te td) (hqb : qa < 2147483648) (nx : Nx z k ns b i qa κ A) : V z 4 k ns 401 [(0, .ref b), (1, .ref (A 9)), (2, .ref (A 130)), (3, .int (nI i))] [] κ I R J := by
  have hz := hw.1
  obtain ⟨hn, hm, hcs, hms, hv, hvT⟩ := id inv
  have k9 := hn.1
  have k130 := hm.k
  refine v_aload_n hz dL_law_401 rfl ?_
  refine v_aload_n hz dL_law_402 rfl ?_
  refine v_iload_n hz dL_law_403 rfl ?_
  refine v_ic (v := nI 1) hz dL_law_404 (by decide) ?_
  first | with_reducible refine v_iaddN hz dL_law_405 ?_ | refine v_iadd hz dL_law_405 ?_
  refine v_sld hw (by omega) dL_law_406 ?_
  refine v_aload_n hz dL_law_407 rfl ?_
  refine v_iload_n hz dL_law_408 rfl ?_
  refine v_ic (v := nI 2) hz dL_law_409 (by decide) ?_
  first | with_reducible refine v_iaddN hz dL_law_410 ?_ | refine v_iadd hz dL_law_410 ?_
  refine v_sld hw (by omega) dL_law_411 ?_
  refine v_aload_n hz dL_law_412 rfl ?_
  refine v_iload_n hz dL_law_413 rfl ?_
  refine v_ic (v := nI 3) hz dL_law_414 (by decide) ?_
  first | with_reducible refine v_iaddN hz dL_law_415 ?_ | refine v_iadd hz dL_law_415 ?_
  refine v_sld hw (by omega) dL_law_416 ?_
  refine v_callVi hz lL_62 (cX7_two_ok _ _ _ _ _ _ A sb hn pg n kn ks tm T qa w bd te td hcs hv (xs (i + 1)) (xs (i + 2)) (xs (i + 3))) (by assumption) rfl rfl (Nat.le_of_ble_eq_true rfl) (by decide) ⟨hkc, hks⟩ dL_law_417 (fun r1 I1 q1 => ?_)
  obtain ⟨e1, hF1, hc1⟩ := q1
  have hms1 := hms.ft hm hF1
  refine v_aload_n hz dL_law_420 rfl ?_
  refine v_aload_n hz dL_law_421 rfl ?_
  refine v_iload_n hz dL_law_422 rfl ?_
  refine v_ic (v := nI 1) hz dL_law_423 (by decide) ?_
  first | with_reducible refine v_iaddN hz dL_law_424 ?_ | refine v_iadd hz dL_law_424 ?_
  refine v_sld hw (by omega) dL_law_425 ?_
  refine v_aload_n hz dL_law_426 rfl ?_
  refine v_iload_n hz dL_law_427 rfl ?_
  refine v_ic (v := nI 2) hz dL_law_428 (by decide) ?_
  first | with_reducible refine v_iaddN hz dL_law_429 ?_ | refine v_iadd hz dL_law_429 ?_
  refine v_sld hw (by omega) dL_law_430 ?_
  refine v_aload_n hz dL_law_431 rfl ?_
  refine v_iload_n hz dL_law_432 rfl ?_
  refine v_ic (v := nI 3) hz dL_law_433 (by decide) ?_
  first | with_reducible refine v_iaddN hz dL_law_434 ?_ | refine v_iadd hz dL_law_434 ?_
  refine v_sld hw (by omega) dL_law_435 ?_
  refine v_callVi hz lL_65 (cX8_two_ok _ _ _ _ _ _ A hm pg n kn ks tm T qa w bd te td hms1 hv (xs (i + 1)) (xs (i + 2)) (xs (i + 3))) (by assumption) rfl rfl (Nat.le_of_ble_eq_true rfl) (by decide) ⟨hkc, hks⟩ dL_law_436 (fun r2 I2 q2 => ?_)
  obtain ⟨e2, hQ⟩ := q2
  have hFo := hQ.fo
  have hm2 := hQ.ms hm hms1
  have hFt := Fo.ft hA hFo
  have key : r1 = r2 ∧ ∃ (sb' : Nat → Nat) (pg' : Nat → Nat) (n' kn' : Nat) (ks' : Nat → Sg) (tm' : Nat → Int32) (T' : Sg) (qa' w' bd' : Nat) (te' td' : Int32), Inv κ R A sb' I2 pg' n' kn' ks' tm' T' qa' w' bd' te' td' ∧ qa' ≤ qa + 1 := by
    exact ⟨e1.trans e2.symm, sb, pg, n, kn, ks, tm, T, qa, w, bd, te, td, ⟨hn, hm, CS.ft hn hFt hc1, hm2, hv, hvT⟩, by omega⟩
  refine v_icmp_eq hz 659 dL_law_439 (by decide) (fun c439 => ?_) (fun c439 => ?_)
  · obtain ⟨-, sb', pg', n', kn', ks', tm', T', qa', w', bd', te', td', hI, hq⟩ := key
    exact nx I2 R J sb' pg' n' kn' ks' tm' T' qa' w' bd' te' td' hI hq
  · exact absurd key.1 c439
set_option maxHeartbeats 4000000 in
set_option maxRecDepth 100000 in
theorem lw_gram {z : Zz} {b L k ns i : Nat} {xs : Nat → Int32} {κ : Kz} {I : Iz} {R : Rz} {J : Jz} {A sb : Nat → Nat} {pg : Nat → Nat} {n kn : Nat} {ks : Nat → Sg} {tm : Nat → Int32} {T : Sg} {qa w bd : Nat} {te td : Int32} (hw : LW z b L xs) (hkc : k ≤ (zR z).cells) (hks : ns ≤ (zR z).slots) (hi : i + 5 ≤ L) (hA : ∀ t, 130 ≤ t → t < 160 → 130 ≤ κ.2.2 (A t) ∧ κ.2.2 (A t) < 160) (inv : Inv κ R A sb I pg n kn ks tm T qa w bd te td) (hqb : qa < 2147483648) (nx : Nx z k ns b i qa κ A) : V z 4 k ns 444 [(0, .ref b), (1, .ref (A 9)), (2, .ref (A 130)), (3, .int (nI i))] [] κ I R J := by
  have hz := hw.1
  obtain ⟨hn, hm, hcs, hms, hv, hvT⟩ := id inv
  have k9 := hn.1
  have k130 := hm.k
  refine v_aload_n hz dL_law_444 rfl ?_
  refine v_aload_n hz dL_law_445 rfl ?_
  refine v_iload_n hz dL_law_446 rfl ?_
  refine v_ic (v := nI 1) hz dL_law_447 (by decide) ?_
  first | with_reducible refine v_iaddN hz dL_law_448 ?_ | refine v_iadd hz dL_law_448 ?_
  refine v_sld hw (by omega) dL_law_449 ?_
  refine v_aload_n hz dL_law_450 rfl ?_
  refine v_iload_n hz dL_law_451 rfl ?_
  refine v_ic (v := nI 2) hz dL_law_452 (by decide) ?_
  first | with_reducible refine v_iaddN hz dL_law_453 ?_ | refine v_iadd hz dL_law_453 ?_
  refine v_sld hw (by omega) dL_law_454 ?_
  refine v_callVi hz lL_66 (cX7_gram_ok _ _ _ _ _ _ A sb hn pg n kn ks tm T qa w bd te td hcs  (xs (i + 1)) (xs (i + 2))) (by assumption) rfl rfl (Nat.le_of_ble_eq_true rfl) (by decide) ⟨hkc, hks⟩ dL_law_455 (fun r1 I1 q1 => ?_)
  obtain ⟨e1, eI1⟩ := q1
  have hF1 : Ft κ cT I I1 := by rw [eI1]; exact Ft.rf
  have hc1 : CS I1 A sb pg n kn ks tm T qa w bd te td := by rw [eI1]; exact hcs
  have hms1 := hms.ft hm hF1
  refine v_aload_n hz dL_law_458 rfl ?_
  refine v_aload_n hz dL_law_459 rfl ?_
  refine v_iload_n hz dL_law_460 rfl ?_
  refine v_ic (v := nI 1) hz dL_law_461 (by decide) ?_
  first | with_reducible refine v_iaddN hz dL_law_462 ?_ | refine v_iadd hz dL_law_462 ?_
  refine v_sld hw (by omega) dL_law_463 ?_
  refine v_aload_n hz dL_law_464 rfl ?_
  refine v_iload_n hz dL_law_465 rfl ?_
  refine v_ic (v := nI 2) hz dL_law_466 (by decide) ?_
  first | with_reducible refine v_iaddN hz dL_law_467 ?_ | refine v_iadd hz dL_law_467 ?_
  refine v_sld hw (by omega) dL_law_468 ?_
  refine v_callVi hz lL_69 (cX8_gram_ok _ _ _ _ _ _ A hm pg n kn ks tm T qa w bd te td hms1 hv (xs (i + 1)) (xs (i + 2))) (by assumption) rfl rfl (Nat.le_of_ble_eq_true rfl) (by decide) ⟨hkc, hks⟩ dL_law_469 (fun r2 I2 q2 => ?_)
  obtain ⟨e2, hQ⟩ := q2
  have hFo := hQ.fo
  have hm2 := hQ.ms hm hms1
  have hFt := Fo.ft hA hFo
  have key : r1 = r2 ∧ ∃ (sb' : Nat → Nat) (pg' : Nat → Nat) (n' kn' : Nat) (ks' : Nat → Sg) (tm' : Nat → Int32) (T' : Sg) (qa' w' bd' : Nat) (te' td' : Int32), Inv κ R A sb' I2 pg' n' kn' ks' tm' T' qa' w' bd' te' td' ∧ qa' ≤ qa + 1 := by
    exact ⟨e1.trans e2.symm, sb, pg, n, kn, ks, tm, T, qa, w, bd, te, td, ⟨hn, hm, CS.ft hn hFt hc1, hm2, hv, hvT⟩, by omega⟩
  refine v_icmp_eq hz 659 dL_law_472 (by decide) (fun c472 => ?_) (fun c472 => ?_)
  · obtain ⟨-, sb', pg', n', kn', ks', tm', T', qa', w', bd', te', td', hI, hq⟩ := key
    exact nx I2 R J sb' pg' n' kn' ks' tm' T' qa' w' bd' te' td' hI hq
  · exact absurd key.1 c472
set_option maxHeartbeats 4000000 in
set_option maxRecDepth 100000 in
theorem lw_near {z : Zz} {b L k ns i : Nat} {xs : Nat → Int32} {κ : Kz} {I : Iz} {R : Rz} {J : Jz} {A sb : Nat → Nat} {pg : Nat → Nat} {n kn : Nat} {ks : Nat → Sg} {tm : Nat → Int32} {T : Sg} {qa w bd : Nat} {te td : Int32} (hw : LW z b L xs) (hkc : k ≤ (zR z).cells) (hks : ns ≤ (zR z).slots) (hi : i + 5 ≤ L) (hA : ∀ t, 130 ≤ t → t < 160 → 130 ≤ κ.2.2 (A t) ∧ κ.2.2 (A t) < 160) (inv : Inv κ R A sb I pg n kn ks tm T qa w bd te td) (hqb : qa < 2147483648) (nx : Nx z k ns b i qa κ A) : V z 4 k ns 477 [(0, .ref b), (1, .ref (A 9)), (2, .ref (A 130)), (3, .int (nI i))] [] κ I R J := by
  have hz := hw.1
  obtain ⟨hn, hm, hcs, hms, hv, hvT⟩ := id inv
  have k9 := hn.1
  have k130 := hm.k
  refine v_aload_n hz dL_law_477 rfl ?_
  refine v_aload_n hz dL_law_478 rfl ?_
  refine v_iload_n hz dL_law_479 rfl ?_
  refine v_ic (v := nI 1) hz dL_law_480 (by decide) ?_
  first | with_reducible refine v_iaddN hz dL_law_481 ?_ | refine v_iadd hz dL_law_481 ?_
  refine v_sld hw (by omega) dL_law_482 ?_
  refine v_aload_n hz dL_law_483 rfl ?_
  refine v_iload_n hz dL_law_484 rfl ?_
  refine v_ic (v := nI 2) hz dL_law_485 (by decide) ?_
  first | with_reducible refine v_iaddN hz dL_law_486 ?_ | refine v_iadd hz dL_law_486 ?_
  refine v_sld hw (by omega) dL_law_487 ?_
  refine v_callVi hz lL_70 (cX7_near_ok _ _ _ _ _ _ A sb hn pg n kn ks tm T qa w bd te td hcs hv hvT hqb (xs (i + 1)) (xs (i + 2))) (by assumption) rfl rfl (Nat.le_of_ble_eq_true rfl) (by decide) ⟨hkc, hks⟩ dL_law_488 (fun r1 I1 q1 => ?_)
  obtain ⟨e1, hF1, hc1⟩ := q1
  have hms1 := hms.ft hm hF1
  refine v_aload_n hz dL_law_491 rfl ?_
  refine v_aload_n hz dL_law_492 rfl ?_
  refine v_iload_n hz dL_law_493 rfl ?_
  refine v_ic (v := nI 1) hz dL_law_494 (by decide) ?_
  first | with_reducible refine v_iaddN hz dL_law_495 ?_ | refine v_iadd hz dL_law_495 ?_
  refine v_sld hw (by omega) dL_law_496 ?_
  refine v_aload_n hz dL_law_497 rfl ?_
  refine v_iload_n hz dL_law_498 rfl ?_
  refine v_ic (v := nI 2) hz dL_law_499 (by decide) ?_
  first | with_reducible refine v_iaddN hz dL_law_500 ?_ | refine v_iadd hz dL_law_500 ?_
  refine v_sld hw (by omega) dL_law_501 ?_
  refine v_callVi hz lL_73 (cX8_near_ok _ _ _ _ _ _ A hm pg n kn ks tm T qa w bd te td hms1 hv hvT (xs (i + 1)) (xs (i + 2))) (by assumption) rfl rfl (Nat.le_of_ble_eq_true rfl) (by decide) ⟨hkc, hks⟩ dL_law_502 (fun r2 I2 q2 => ?_)
  obtain ⟨e2, hQ⟩ := q2
  have hFo := hQ.fo
  have hm2 := hQ.ms hm hms1
  have hFt := Fo.ft hA hFo
  have key : r1 = r2 ∧ ∃ (sb' : Nat → Nat) (pg' : Nat → Nat) (n' kn' : Nat) (ks' : Nat → Sg) (tm' : Nat → Int32) (T' : Sg) (qa' w' bd' : Nat) (te' td' : Int32), Inv κ R A sb' I2 pg' n' kn' ks' tm' T' qa' w' bd' te' td' ∧ qa' ≤ qa + 1 := by
    exact ⟨e1.trans e2.symm, sb, pg, n, kn, ks, tm, T, qa, w, bd, te, td, ⟨hn, hm, CS.ft hn hFt hc1, hm2, hv, hvT⟩, by omega⟩
  refine v_icmp_eq hz 659 dL_law_505 (by decide) (fun c505 => ?_) (fun c505 => ?_)
  · obtain ⟨-, sb', pg', n', kn', ks', tm', T', qa', w', bd', te', td', hI, hq⟩ := key
    exact nx I2 R J sb' pg' n' kn' ks' tm' T' qa' w' bd' te' td' hI hq
  · exact absurd key.1 c505
set_option maxHeartbeats 4000000 in
set_option maxRecDepth 100000 in
theorem lw_step {z : Zz} {b L k ns i : Nat} {xs : Nat → Int32} {κ : Kz} {I : Iz} {R : Rz} {J : Jz} {A sb : Nat → Nat} {pg : Nat → Nat} {n kn : Nat} {ks : Nat → Sg} {tm : Nat → Int32} {T : Sg} {qa w bd : Nat} {te td : Int32} (hw : LW z b L xs) (hkc : k ≤ (zR z).cells) (hks : ns ≤ (zR z).slots) (hi : i + 5 ≤ L) (hA : ∀ t, 130 ≤ t → t < 160 → 130 ≤ κ.2.2 (A t) ∧ κ.2.2 (A t) < 160) (inv : Inv κ R A sb I pg n kn ks tm T qa w bd te td) (hqb : qa < 2147483648) (nx : Nx z k ns b i qa κ A) : V z 4 k ns 510 [(0, .ref b), (1, .ref (A 9)), (2, .ref (A 130)), (3, .int (nI i))] [] κ I R J := by
  have hz := hw.1
  obtain ⟨hn, hm, hcs, hms, hv, hvT⟩ := id inv
  have k9 := hn.1
  have k130 := hm.k
  refine v_aload_n hz dL_law_510 rfl ?_
  refine v_aload_n hz dL_law_511 rfl ?_
  refine v_iload_n hz dL_law_512 rfl ?_
  refine v_ic (v := nI 1) hz dL_law_513 (by decide) ?_
  first | with_reducible refine v_iaddN hz dL_law_514 ?_ | refine v_iadd hz dL_law_514 ?_
  refine v_sld hw (by omega) dL_law_515 ?_
  refine v_aload_n hz dL_law_516 rfl ?_
  refine v_iload_n hz dL_law_517 rfl ?_
  refine v_ic (v := nI 2) hz dL_law_518 (by decide) ?_
  first | with_reducible refine v_iaddN hz dL_law_519 ?_ | refine v_iadd hz dL_law_519 ?_
  refine v_sld hw (by omega) dL_law_520 ?_
  refine v_aload_n hz dL_law_521 rfl ?_
  refine v_iload_n hz dL_law_522 rfl ?_
  refine v_ic (v := nI 3) hz dL_law_523 (by decide) ?_
  first | with_reducible refine v_iaddN hz dL_law_524 ?_ | refine v_iadd hz dL_law_524 ?_
  refine v_sld hw (by omega) dL_law_525 ?_
  refine v_callVi hz lL_74 (cX7_step_ok _ _ _ _ _ _ A sb hn pg n kn ks tm T qa w bd te td hcs hv hvT hqb (xs (i + 1)) (xs (i + 2)) (xs (i + 3))) (by assumption) rfl rfl (Nat.le_of_ble_eq_true rfl) (by decide) ⟨hkc, hks⟩ dL_law_526 (fun r1 I1 q1 => ?_)
  obtain ⟨e1, hF1, hc1⟩ := q1
  have hms1 := hms.ft hm hF1
  refine v_aload_n hz dL_law_529 rfl ?_
  refine v_aload_n hz dL_law_530 rfl ?_
  refine v_iload_n hz dL_law_531 rfl ?_
  refine v_ic (v := nI 1) hz dL_law_532 (by decide) ?_
  first | with_reducible refine v_iaddN hz dL_law_533 ?_ | refine v_iadd hz dL_law_533 ?_
  refine v_sld hw (by omega) dL_law_534 ?_
  refine v_aload_n hz dL_law_535 rfl ?_
  refine v_iload_n hz dL_law_536 rfl ?_
  refine v_ic (v := nI 2) hz dL_law_537 (by decide) ?_
  first | with_reducible refine v_iaddN hz dL_law_538 ?_ | refine v_iadd hz dL_law_538 ?_
  refine v_sld hw (by omega) dL_law_539 ?_
  refine v_aload_n hz dL_law_540 rfl ?_
  refine v_iload_n hz dL_law_541 rfl ?_
  refine v_ic (v := nI 3) hz dL_law_542 (by decide) ?_
  first | with_reducible refine v_iaddN hz dL_law_543 ?_ | refine v_iadd hz dL_law_543 ?_
  refine v_sld hw (by omega) dL_law_544 ?_
  refine v_callVi hz lL_77 (cX8_step_ok _ _ _ _ _ _ A hm pg n kn ks tm T qa w bd te td hms1 hv hvT (xs (i + 1)) (xs (i + 2)) (xs (i + 3))) (by assumption) rfl rfl (Nat.le_of_ble_eq_true rfl) (by decide) ⟨hkc, hks⟩ dL_law_545 (fun r2 I2 q2 => ?_)
  obtain ⟨e2, hQ⟩ := q2
  have hFo := hQ.fo
  have hm2 := hQ.ms hm hms1
  have hFt := Fo.ft hA hFo
  have key : r1 = r2 ∧ ∃ (sb' : Nat → Nat) (pg' : Nat → Nat) (n' kn' : Nat) (ks' : Nat → Sg) (tm' : Nat → Int32) (T' : Sg) (qa' w' bd' : Nat) (te' td' : Int32), Inv κ R A sb' I2 pg' n' kn' ks' tm' T' qa' w' bd' te' td' ∧ qa' ≤ qa + 1 := by
    exact ⟨e1.trans e2.symm, sb, pg, n, kn, ks, tm, T, qa, w, bd, te, td, ⟨hn, hm, CS.ft hn hFt hc1, hm2, hv, hvT⟩, by omega⟩
  refine v_icmp_eq hz 659 dL_law_548 (by decide) (fun c548 => ?_) (fun c548 => ?_)
  · obtain ⟨-, sb', pg', n', kn', ks', tm', T', qa', w', bd', te', td', hI, hq⟩ := key
    exact nx I2 R J sb' pg' n' kn' ks' tm' T' qa' w' bd' te' td' hI hq
  · exact absurd key.1 c548
set_option maxHeartbeats 4000000 in
set_option maxRecDepth 100000 in
theorem lw_rank {z : Zz} {b L k ns i : Nat} {xs : Nat → Int32} {κ : Kz} {I : Iz} {R : Rz} {J : Jz} {A sb : Nat → Nat} {pg : Nat → Nat} {n kn : Nat} {ks : Nat → Sg} {tm : Nat → Int32} {T : Sg} {qa w bd : Nat} {te td : Int32} (hw : LW z b L xs) (hkc : k ≤ (zR z).cells) (hks : ns ≤ (zR z).slots) (hi : i + 5 ≤ L) (hA : ∀ t, 130 ≤ t → t < 160 → 130 ≤ κ.2.2 (A t) ∧ κ.2.2 (A t) < 160) (inv : Inv κ R A sb I pg n kn ks tm T qa w bd te td) (hqb : qa < 2147483648) (nx : Nx z k ns b i qa κ A) : V z 4 k ns 553 [(0, .ref b), (1, .ref (A 9)), (2, .ref (A 130)), (3, .int (nI i))] [] κ I R J := by
  have hz := hw.1
  obtain ⟨hn, hm, hcs, hms, hv, hvT⟩ := id inv
  have k9 := hn.1
  have k130 := hm.k
  refine v_aload_n hz dL_law_553 rfl ?_
  refine v_aload_n hz dL_law_554 rfl ?_
  refine v_iload_n hz dL_law_555 rfl ?_
  refine v_ic (v := nI 1) hz dL_law_556 (by decide) ?_
  first | with_reducible refine v_iaddN hz dL_law_557 ?_ | refine v_iadd hz dL_law_557 ?_
  refine v_sld hw (by omega) dL_law_558 ?_
  refine v_callVi hz lL_78 (cX7_rank_ok _ _ _ _ _ _ A sb hn pg n kn ks tm T qa w bd te td hcs hv hvT hqb (xs (i + 1))) (by assumption) rfl rfl (Nat.le_of_ble_eq_true rfl) (by decide) ⟨hkc, hks⟩ dL_law_559 (fun r1 I1 q1 => ?_)
  obtain ⟨e1, hF1, hc1⟩ := q1
  have hms1 := hms.ft hm hF1
  refine v_aload_n hz dL_law_562 rfl ?_
  refine v_aload_n hz dL_law_563 rfl ?_
  refine v_iload_n hz dL_law_564 rfl ?_
  refine v_ic (v := nI 1) hz dL_law_565 (by decide) ?_
  first | with_reducible refine v_iaddN hz dL_law_566 ?_ | refine v_iadd hz dL_law_566 ?_
  refine v_sld hw (by omega) dL_law_567 ?_
  refine v_callVi hz lL_81 (cX8_rank_ok _ _ _ _ _ _ A hm pg n kn ks tm T qa w bd te td hms1 hv hvT (xs (i + 1))) (by assumption) rfl rfl (Nat.le_of_ble_eq_true rfl) (by decide) ⟨hkc, hks⟩ dL_law_568 (fun r2 I2 q2 => ?_)
  obtain ⟨e2, hQ⟩ := q2
  have hFo := hQ.fo
  have hm2 := hQ.ms hm hms1
  have hFt := Fo.ft hA hFo
  have key : r1 = r2 ∧ ∃ (sb' : Nat → Nat) (pg' : Nat → Nat) (n' kn' : Nat) (ks' : Nat → Sg) (tm' : Nat → Int32) (T' : Sg) (qa' w' bd' : Nat) (te' td' : Int32), Inv κ R A sb' I2 pg' n' kn' ks' tm' T' qa' w' bd' te' td' ∧ qa' ≤ qa + 1 := by
    exact ⟨e1.trans e2.symm, sb, pg, n, kn, ks, tm, T, qa, w, bd, te, td, ⟨hn, hm, CS.ft hn hFt hc1, hm2, hv, hvT⟩, by omega⟩
  refine v_icmp_eq hz 659 dL_law_571 (by decide) (fun c571 => ?_) (fun c571 => ?_)
  · obtain ⟨-, sb', pg', n', kn', ks', tm', T', qa', w', bd', te', td', hI, hq⟩ := key
    exact nx I2 R J sb' pg' n' kn' ks' tm' T' qa' w' bd' te' td' hI hq
  · exact absurd key.1 c571
set_option maxHeartbeats 4000000 in
set_option maxRecDepth 100000 in
theorem lw_question {z : Zz} {b L k ns i : Nat} {xs : Nat → Int32} {κ : Kz} {I : Iz} {R : Rz} {J : Jz} {A sb : Nat → Nat} {pg : Nat → Nat} {n kn : Nat} {ks : Nat → Sg} {tm : Nat → Int32} {T : Sg} {qa w bd : Nat} {te td : Int32} (hw : LW z b L xs) (hkc : k ≤ (zR z).cells) (hks : ns ≤ (zR z).slots) (hi : i + 5 ≤ L) (hA : ∀ t, 130 ≤ t → t < 160 → 130 ≤ κ.2.2 (A t) ∧ κ.2.2 (A t) < 160) (inv : Inv κ R A sb I pg n kn ks tm T qa w bd te td) (hqb : qa < 2147483648) (nx : Nx z k ns b i qa κ A) : V z 4 k ns 576 [(0, .ref b), (1, .ref (A 9)), (2, .ref (A 130)), (3, .int (nI i))] [] κ I R J := by
  have hz := hw.1
  obtain ⟨hn, hm, hcs, hms, hv, hvT⟩ := id inv
  have k9 := hn.1
  have k130 := hm.k
  refine v_aload_n hz dL_law_576 rfl ?_
  refine v_aload_n hz dL_law_577 rfl ?_
  refine v_iload_n hz dL_law_578 rfl ?_
  refine v_ic (v := nI 1) hz dL_law_579 (by decide) ?_
  first | with_reducible refine v_iaddN hz dL_law_580 ?_ | refine v_iadd hz dL_law_580 ?_
  refine v_sld hw (by omega) dL_law_581 ?_
  refine v_callVi hz lL_82 (cX7_question_ok _ _ _ _ _ _ A sb hn pg n kn ks tm T qa w bd te td hcs hv hvT hqb (xs (i + 1))) (by assumption) rfl rfl (Nat.le_of_ble_eq_true rfl) (by decide) ⟨hkc, hks⟩ dL_law_582 (fun r1 I1 q1 => ?_)
  obtain ⟨e1, hF1, hc1⟩ := q1
  have hms1 := hms.ft hm hF1
  refine v_aload_n hz dL_law_585 rfl ?_
  refine v_aload_n hz dL_law_586 rfl ?_
  refine v_iload_n hz dL_law_587 rfl ?_
  refine v_ic (v := nI 1) hz dL_law_588 (by decide) ?_
  first | with_reducible refine v_iaddN hz dL_law_589 ?_ | refine v_iadd hz dL_law_589 ?_
  refine v_sld hw (by omega) dL_law_590 ?_
  refine v_callVi hz lL_85 (cX8_question_ok _ _ _ _ _ _ A hm pg n kn ks tm T qa w bd te td hms1 hv hvT (xs (i + 1))) (by assumption) rfl rfl (Nat.le_of_ble_eq_true rfl) (by decide) ⟨hkc, hks⟩ dL_law_591 (fun r2 I2 q2 => ?_)
  obtain ⟨e2, hQ⟩ := q2
  have hFo := hQ.fo
  have hm2 := hQ.ms hm hms1
  have hFt := Fo.ft hA hFo
  have key : r1 = r2 ∧ ∃ (sb' : Nat → Nat) (pg' : Nat → Nat) (n' kn' : Nat) (ks' : Nat → Sg) (tm' : Nat → Int32) (T' : Sg) (qa' w' bd' : Nat) (te' td' : Int32), Inv κ R A sb' I2 pg' n' kn' ks' tm' T' qa' w' bd' te' td' ∧ qa' ≤ qa + 1 := by
    exact ⟨e1.trans e2.symm, sb, pg, n, kn, ks, tm, T, qa, w, bd, te, td, ⟨hn, hm, CS.ft hn hFt hc1, hm2, hv, hvT⟩, by omega⟩
  refine v_icmp_eq hz 659 dL_law_594 (by decide) (fun c594 => ?_) (fun c594 => ?_)
  · obtain ⟨-, sb', pg', n', kn', ks', tm', T', qa', w', bd', te', td', hI, hq⟩ := key
    exact nx I2 R J sb' pg' n' kn' ks' tm' T' qa' w' bd' te' td' hI hq
  · exact absurd key.1 c594
set_option maxHeartbeats 4000000 in
set_option maxRecDepth 100000 in
theorem lw_covered {z : Zz} {b L k ns i : Nat} {xs : Nat → Int32} {κ : Kz} {I : Iz} {R : Rz} {J : Jz} {A sb : Nat → Nat} {pg : Nat → Nat} {n kn : Nat} {ks : Nat → Sg} {tm : Nat → Int32} {T : Sg} {qa w bd : Nat} {te td : Int32} (hw : LW z b L xs) (hkc : k ≤ (zR z).cells) (hks : ns ≤ (zR z).slots) (hi : i + 5 ≤ L) (hA : ∀ t, 130 ≤ t → t < 160 → 130 ≤ κ.2.2 (A t) ∧ κ.2.2 (A t) < 160) (inv : Inv κ R A sb I pg n kn ks tm T qa w bd te td) (hqb : qa < 2147483648) (nx : Nx z k ns b i qa κ A) : V z 4 k ns 599 [(0, .ref b), (1, .ref (A 9)), (2, .ref (A 130)), (3, .int (nI i))] [] κ I R J := by
  have hz := hw.1
  obtain ⟨hn, hm, hcs, hms, hv, hvT⟩ := id inv
  have k9 := hn.1
  have k130 := hm.k
  refine v_aload_n hz dL_law_599 rfl ?_
  refine v_aload_n hz dL_law_600 rfl ?_
  refine v_iload_n hz dL_law_601 rfl ?_
  refine v_ic (v := nI 1) hz dL_law_602 (by decide) ?_
  first | with_reducible refine v_iaddN hz dL_law_603 ?_ | refine v_iadd hz dL_law_603 ?_
  refine v_sld hw (by omega) dL_law_604 ?_
  refine v_callVi hz lL_86 (cX7_covered_ok _ _ _ _ _ _ A sb hn pg n kn ks tm T qa w bd te td hcs hv hvT hqb (xs (i + 1))) (by assumption) rfl rfl (Nat.le_of_ble_eq_true rfl) (by decide) ⟨hkc, hks⟩ dL_law_605 (fun r1 I1 q1 => ?_)
  obtain ⟨e1, hF1, hc1⟩ := q1
  have hms1 := hms.ft hm hF1
  refine v_aload_n hz dL_law_608 rfl ?_
  refine v_aload_n hz dL_law_609 rfl ?_
  refine v_iload_n hz dL_law_610 rfl ?_
  refine v_ic (v := nI 1) hz dL_law_611 (by decide) ?_
  first | with_reducible refine v_iaddN hz dL_law_612 ?_ | refine v_iadd hz dL_law_612 ?_
  refine v_sld hw (by omega) dL_law_613 ?_
  refine v_callVi hz lL_89 (cX8_covered_ok _ _ _ _ _ _ A hm pg n kn ks tm T qa w bd te td hms1 hv hvT (xs (i + 1))) (by assumption) rfl rfl (Nat.le_of_ble_eq_true rfl) (by decide) ⟨hkc, hks⟩ dL_law_614 (fun r2 I2 q2 => ?_)
  obtain ⟨e2, hQ⟩ := q2
  have hFo := hQ.fo
  have hm2 := hQ.ms hm hms1
  have hFt := Fo.ft hA hFo
  have key : r1 = r2 ∧ ∃ (sb' : Nat → Nat) (pg' : Nat → Nat) (n' kn' : Nat) (ks' : Nat → Sg) (tm' : Nat → Int32) (T' : Sg) (qa' w' bd' : Nat) (te' td' : Int32), Inv κ R A sb' I2 pg' n' kn' ks' tm' T' qa' w' bd' te' td' ∧ qa' ≤ qa + 1 := by
    exact ⟨e1.trans e2.symm, sb, pg, n, kn, ks, tm, T, qa, w, bd, te, td, ⟨hn, hm, CS.ft hn hFt hc1, hm2, hv, hvT⟩, by omega⟩
  refine v_icmp_eq hz 659 dL_law_617 (by decide) (fun c617 => ?_) (fun c617 => ?_)
  · obtain ⟨-, sb', pg', n', kn', ks', tm', T', qa', w', bd', te', td', hI, hq⟩ := key
    exact nx I2 R J sb' pg' n' kn' ks' tm' T' qa' w' bd' te' td' hI hq
  · exact absurd key.1 c617
set_option maxHeartbeats 4000000 in
set_option maxRecDepth 100000 in
theorem lw_count {z : Zz} {b L k ns i : Nat} {xs : Nat → Int32} {κ : Kz} {I : Iz} {R : Rz} {J : Jz} {A sb : Nat → Nat} {pg : Nat → Nat} {n kn : Nat} {ks : Nat → Sg} {tm : Nat → Int32} {T : Sg} {qa w bd : Nat} {te td : Int32} (hw : LW z b L xs) (hkc : k ≤ (zR z).cells) (hks : ns ≤ (zR z).slots) (hi : i + 5 ≤ L) (hA : ∀ t, 130 ≤ t → t < 160 → 130 ≤ κ.2.2 (A t) ∧ κ.2.2 (A t) < 160) (inv : Inv κ R A sb I pg n kn ks tm T qa w bd te td) (hqb : qa < 2147483648) (nx : Nx z k ns b i qa κ A) : V z 4 k ns 622 [(0, .ref b), (1, .ref (A 9)), (2, .ref (A 130)), (3, .int (nI i))] [] κ I R J := by
  have hz := hw.1
  obtain ⟨hn, hm, hcs, hms, hv, hvT⟩ := id inv
  have k9 := hn.1
  have k130 := hm.k
  refine v_aload_n hz dL_law_622 rfl ?_
  refine v_aload_n hz dL_law_623 rfl ?_
  refine v_iload_n hz dL_law_624 rfl ?_
  refine v_ic (v := nI 1) hz dL_law_625 (by decide) ?_
  first | with_reducible refine v_iaddN hz dL_law_626 ?_ | refine v_iadd hz dL_law_626 ?_
  refine v_sld hw (by omega) dL_law_627 ?_
  refine v_callVi hz lL_90 (cX7_count_ok _ _ _ _ _ _ A sb hn pg n kn ks tm T qa w bd te td hcs  (xs (i + 1))) (by assumption) rfl rfl (Nat.le_of_ble_eq_true rfl) (by decide) ⟨hkc, hks⟩ dL_law_628 (fun r1 I1 q1 => ?_)
  obtain ⟨e1, eI1⟩ := q1
  have hF1 : Ft κ cT I I1 := by rw [eI1]; exact Ft.rf
  have hc1 : CS I1 A sb pg n kn ks tm T qa w bd te td := by rw [eI1]; exact hcs
  have hms1 := hms.ft hm hF1
  refine v_aload_n hz dL_law_631 rfl ?_
  refine v_aload_n hz dL_law_632 rfl ?_
  refine v_iload_n hz dL_law_633 rfl ?_
  refine v_ic (v := nI 1) hz dL_law_634 (by decide) ?_
  first | with_reducible refine v_iaddN hz dL_law_635 ?_ | refine v_iadd hz dL_law_635 ?_
  refine v_sld hw (by omega) dL_law_636 ?_
  refine v_callVi hz lL_93 (cX8_count_ok _ _ _ _ _ _ A hm pg n kn ks tm T qa w bd te td hms1 hv (xs (i + 1))) (by assumption) rfl rfl (Nat.le_of_ble_eq_true rfl) (by decide) ⟨hkc, hks⟩ dL_law_637 (fun r2 I2 q2 => ?_)
  obtain ⟨e2, hQ⟩ := q2
  have hFo := hQ.fo
  have hm2 := hQ.ms hm hms1
  have hFt := Fo.ft hA hFo
  have key : r1 = r2 ∧ ∃ (sb' : Nat → Nat) (pg' : Nat → Nat) (n' kn' : Nat) (ks' : Nat → Sg) (tm' : Nat → Int32) (T' : Sg) (qa' w' bd' : Nat) (te' td' : Int32), Inv κ R A sb' I2 pg' n' kn' ks' tm' T' qa' w' bd' te' td' ∧ qa' ≤ qa + 1 := by
    exact ⟨e1.trans e2.symm, sb, pg, n, kn, ks, tm, T, qa, w, bd, te, td, ⟨hn, hm, CS.ft hn hFt hc1, hm2, hv, hvT⟩, by omega⟩
  refine v_icmp_eq hz 659 dL_law_640 (by decide) (fun c640 => ?_) (fun c640 => ?_)
  · obtain ⟨-, sb', pg', n', kn', ks', tm', T', qa', w', bd', te', td', hI, hq⟩ := key
    exact nx I2 R J sb' pg' n' kn' ks' tm' T' qa' w' bd' te' td' hI hq
  · exact absurd key.1 c640
set_option maxHeartbeats 4000000 in
set_option maxRecDepth 100000 in
theorem lw_digest {z : Zz} {b L k ns i : Nat} {xs : Nat → Int32} {κ : Kz} {I : Iz} {R : Rz} {J : Jz} {A sb : Nat → Nat} {pg : Nat → Nat} {n kn : Nat} {ks : Nat → Sg} {tm : Nat → Int32} {T : Sg} {qa w bd : Nat} {te td : Int32} (hw : LW z b L xs) (hkc : k ≤ (zR z).cells) (hks : ns ≤ (zR z).slots) (hi : i + 5 ≤ L) (hA : ∀ t, 130 ≤ t → t < 160 → 130 ≤ κ.2.2 (A t) ∧ κ.2.2 (A t) < 160) (inv : Inv κ R A sb I pg n kn ks tm T qa w bd te td) (hqb : qa < 2147483648) (nx : Nx z k ns b i qa κ A) : V z 4 k ns 645 [(0, .ref b), (1, .ref (A 9)), (2, .ref (A 130)), (3, .int (nI i))] [] κ I R J := by
  have hz := hw.1
  obtain ⟨hn, hm, hcs, hms, hv, hvT⟩ := id inv
  have k9 := hn.1
  have k130 := hm.k
  refine v_aload_n hz dL_law_645 rfl ?_
  refine v_callVl hz lL_94 (cX7_digest_ok _ _ _ _ _ _ A sb hn pg n kn ks tm T qa w bd te td hcs hv hvT hqb) (by assumption) rfl rfl (Nat.le_of_ble_eq_true rfl) (by decide) ⟨hkc, hks⟩ dL_law_646 (fun r1 I1 q1 => ?_)
  obtain ⟨e1, hF1, hc1⟩ := q1
  have hms1 := hms.ft hm hF1
  refine v_aload_n hz dL_law_649 rfl ?_
  refine v_callV0 hz lL_98 (cX8_digest_ok _ _ _ _ _ _ A hm pg n kn ks tm T qa w bd te td hms1 hv hvT) k130 rfl rfl (Nat.le_of_ble_eq_true rfl) (by decide) ⟨hkc, hks⟩ dL_law_650 (fun v2 κ2 I2 R2 J2 q2 => ?_)
  obtain ⟨eκ, eR, r2, rfl, hQ, e2, -⟩ := q2
  rw [eκ, eR]
  have hFo := hQ.fo
  have hm2 := hQ.ms hm hms1
  have hFt := Fo.ft hA hFo
  refine v_lcmp hz dL_law_653 ?_
  refine v_top (y := 0) (by rw [e1, e2]; unfold lg_cmp; rw [if_neg (fun q => Int64.lt_irrefl q), if_pos rfl]) ?_
  refine v_if_eq hz 659 dL_law_654 (by decide) (fun c654 => ?_) (fun c654 => ?_)
  · exact nx I2 R J2 sb pg n kn ks tm T qa w bd te td ⟨hn, hm, CS.ft hn hFt hc1, hm2, hv, hvT⟩ (by omega)
  · exact absurd rfl c654
set_option maxHeartbeats 4000000 in
set_option maxRecDepth 100000 in
theorem lw_drop {z : Zz} {b L k ns i : Nat} {xs : Nat → Int32} {κ : Kz} {I : Iz} {R : Rz} {J : Jz} {A sb : Nat → Nat} {pg : Nat → Nat} {n kn : Nat} {ks : Nat → Sg} {tm : Nat → Int32} {T : Sg} {qa w bd : Nat} {te td : Int32} (hw : LW z b L xs) (hkc : k ≤ (zR z).cells) (hks : ns ≤ (zR z).slots) (hi : i + 5 ≤ L) (hA : ∀ t, 130 ≤ t → t < 160 → 130 ≤ κ.2.2 (A t) ∧ κ.2.2 (A t) < 160) (inv : Inv κ R A sb I pg n kn ks tm T qa w bd te td) (hqb : qa < 2147483648) (nx : Nx z k ns b i qa κ A) : V z 4 k ns 190 [(0, .ref b), (1, .ref (A 9)), (2, .ref (A 130)), (3, .int (nI i))] [] κ I R J := by
  have hz := hw.1
  obtain ⟨hn, hm, hcs, hms, hv, hvT⟩ := id inv
  have k9 := hn.1
  have k130 := hm.k
  refine v_aload_n hz dL_law_190 rfl ?_
  refine v_aload_n hz dL_law_191 rfl ?_
  refine v_iload_n hz dL_law_192 rfl ?_
  refine v_ic (v := nI 1) hz dL_law_193 (by decide) ?_
  first | with_reducible refine v_iaddN hz dL_law_194 ?_ | refine v_iadd hz dL_law_194 ?_
  refine v_sld hw (by omega) dL_law_195 ?_
  refine v_callV0 hz lL_31 (cX7_drop_ok _ _ _ _ _ _ A sb hn pg n kn ks tm T qa w bd te td hcs (xs (i + 1))) k9 rfl rfl (Nat.le_of_ble_eq_true rfl) (by decide) ⟨hkc, hks⟩ dL_law_196 (fun v1 κ1 I1 R1 J1 q1 => ?_)
  obtain ⟨eκ, eJ, r1, rfl, hF1, hfr, sb1, hn1, c1, c2⟩ := q1
  rw [eκ, eJ]
  have hm1 := LM.ro hn.2.2.2.1.1 hfr hm
  have hms1 := hms.ft hm hF1
  refine v_aload_n hz dL_law_199 rfl ?_
  refine v_aload_n hz dL_law_200 rfl ?_
  refine v_iload_n hz dL_law_201 rfl ?_
  refine v_ic (v := nI 1) hz dL_law_202 (by decide) ?_
  first | with_reducible refine v_iaddN hz dL_law_203 ?_ | refine v_iadd hz dL_law_203 ?_
  refine v_sld hw (by omega) dL_law_204 ?_
  refine v_callVi hz lL_34 (cX8_drop_ok _ _ _ _ _ _ A hm1 pg n kn ks tm T qa w bd te td hms1 (xs (i + 1))) (by assumption) rfl rfl (Nat.le_of_ble_eq_true rfl) (by decide) ⟨hkc, hks⟩ dL_law_205 (fun r2 I2 q2 => ?_)
  obtain ⟨hFo, b1, b2⟩ := q2
  have hFt := Fo.ft hA hFo
  have key : r1 = r2 ∧ ∃ (sb' : Nat → Nat) (pg' : Nat → Nat) (n' kn' : Nat) (ks' : Nat → Sg) (tm' : Nat → Int32) (T' : Sg) (qa' w' bd' : Nat) (te' td' : Int32), Inv κ R1 A sb' I2 pg' n' kn' ks' tm' T' qa' w' bd' te' td' ∧ qa' ≤ qa + 1 := by
    have hk12 := hcs.2.1.1
    by_cases h : 0 ≤ (xs (i + 1)) ∧ (xs (i + 1)) < nI kn
    · obtain ⟨s, hs1, hs2⟩ := kpt_of (by omega) h
      obtain ⟨a3, a4⟩ := c2 s hs2 hs1
      obtain ⟨b3, b4⟩ := b2 s hs2 hs1
      exact ⟨a3.trans b3.symm, sb1, pg, n, _, _, _, T, qa, w, bd, te, _, ⟨hn1, hm1, CS.ft hn1 hFt a4, b4, okQ_dl hv, hvT⟩, by omega⟩
    · obtain ⟨a3, a4⟩ := c1 h
      obtain ⟨b3, b4⟩ := b1 h
      exact ⟨a3.trans b3.symm, sb1, pg, n, kn, ks, tm, T, qa, w, bd, te, td, ⟨hn1, hm1, CS.ft hn1 hFt a4, b4, hv, hvT⟩, by omega⟩
  refine v_icmp_eq hz 659 dL_law_208 (by decide) (fun c208 => ?_) (fun c208 => ?_)
  · obtain ⟨-, sb', pg', n', kn', ks', tm', T', qa', w', bd', te', td', hI, hq⟩ := key
    exact nx I2 R1 J sb' pg' n' kn' ks' tm' T' qa' w' bd' te' td' hI hq
  · exact absurd key.1 c208
