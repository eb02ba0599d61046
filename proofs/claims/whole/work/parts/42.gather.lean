/-! ===== the class: what is covered; matches and ranks ===== -/
theorem stc_b {w : Nat} {S T : Sg} {k : Nat} (hS : okS S) (hT : okS T) (hw : w ≤ 20) : stc w S T k ≤ 1000000 := by
  unfold stc
  have h1 := cst_le (L := S.2.1 (pos w S T k).1) hw
  have h2 := cst_le (L := T.2.1 (pos w S T k).2) hw
  split
  · rename_i h
    have h3 : (pos w S T k).1 < S.1 ∧ (pos w S T k).2 < T.1 := by
      unfold knd at h
      split at h
      · rename_i h4
        exact ⟨h4.1, h4.2.1⟩
      · split at h <;> omega
    exact bcn_le (by decide) (hS.2.2 _ h3.1).1 (hT.2.2 _ h3.2).1 hw
  · split <;> omega
theorem knd_0 {w : Nat} {S T : Sg} {i j : Nat} (h : knd w S T i j = 0) : j < T.1 := by
  unfold knd at h
  split at h
  · rename_i h4
    exact h4.2.1
  · split at h <;> omega
theorem cvs_s {w : Nat} {S T : Sg} {cv : Nat → Bool} {k x : Nat} : cvs w S T cv (k + 1) x = (cvs w S T cv k x || (decide (knd w S T (pos w S T k).1 (pos w S T k).2 = 0) && decide (stc w S T k = 0) && decide ((pos w S T k).2 = x))) := rfl
set_option maxHeartbeats 4000000 in
set_option maxRecDepth 100000 in
theorem lp_X2_cover {z : Zz} {κ : Kz} {I0 : Iz} {R : Rz} {J : Jz} {A : Nat → Nat} (hf : LFg κ R A) (hz : Am z cX2_cover RX2 4 1) {b n w : Nat} {S T : Sg} {cv : Nat → Bool} (hc : LCg κ R A b) (hb : 60 ≤ b) (hS : okS S) (hT : okS T) (hw : w ≤ 20) (h1 : stpC I0 A b w S T n) (hr : Rt z yX2_cover none 0 0 (Sv κ R J (fun I1 => Fcv A I0 I1 ∧ ∀ x, x < 8 → I1 (A 14) x = bz (cvs w S T cv n x = true)))) :
    ∀ (m k : Nat) (I : Iz), k ≤ n → n + 1 ≤ k + m → Fcv A I0 I → (∀ x, x < 8 → I (A 14) x = bz (cvs w S T cv k x = true)) → V z 4 0 0 2 [(0, .ref (A 11)), (1, .ref (A b)), (2, .int (nI k))] [] κ I R J := by
  obtain ⟨hk, ho11, ⟨hR0, hK12, hN12, hrow⟩, ⟨hR1, hK13, hN13, ho13⟩, ⟨hR2, hK14, hN14, ho14⟩⟩ := id hf
  have n13 : A 11 ≠ A 13 := tag_ne ho11 ho13 (by decide)
  have n14 : A 11 ≠ A 14 := tag_ne ho11 ho14 (by decide)
  have n34 : A 13 ≠ A 14 := tag_ne ho13 ho14 (by decide)
  obtain ⟨ck, co, ⟨cR0, cK1, cN1, co1⟩, ⟨cR1, cK2, cN2, co2⟩, ⟨cR2, cK3, cN3, co3⟩, ⟨cR3, cK4, cN4, co4⟩⟩ := id hc
  obtain ⟨hns, hn16, e7, e8, har⟩ := h1
  have hS8 := hS.2.1
  have hT8 := hT.2.1
  intro m
  induction m with
  | zero => intro k I hk9 hm; exact absurd hm (by omega)
  | succ m ih =>
  intro k I hk9 hm hF hcv
  have x7 : I (A b) 7 = nI n := by rw [hF _ (tag_ne co ho14 (by omega))]; exact e7
  have y1 : I (A (b + 1)) = I0 (A (b + 1)) := hF _ (tag_ne co1 ho14 (by omega))
  have y2 : I (A (b + 2)) = I0 (A (b + 2)) := hF _ (tag_ne co2 ho14 (by omega))
  have y4 : I (A (b + 4)) = I0 (A (b + 4)) := hF _ (tag_ne co4 ho14 (by omega))
  have kl := knd_le w S T (pos w S T k).1 (pos w S T k).2
  have sl := stc_b (k := k) hS hT hw
  refine v_iload_n hz dX2_cover_2 rfl ?_
  refine v_aload_n hz dX2_cover_3 rfl ?_
  refine v_getI hz fX2_65 (by assumption) dX2_cover_4 ?_
  refine v_top x7 ?_
  first | with_reducible refine v_icmp_geN hz 60 (by omega) (by omega) dX2_cover_7 (by decide) (fun c7 => ?_) (fun c7 => ?_) | refine v_icmp_ge hz 60 dX2_cover_7 (by decide) (fun c7 => ?_) (fun c7 => ?_)
  · exact v_vret hz hr dX2_cover_60 ⟨hF, fun x hx => by rw [show n = k by omega]; exact hcv x hx⟩
  · refine v_aload_n hz dX2_cover_10 rfl ?_
    refine v_getR hz fX2_68 (by assumption) (by assumption) dX2_cover_11 ?_
    refine v_iload_n hz dX2_cover_14 rfl ?_
    refine v_ialdN hz (by assumption) (by assumption) (by omega) (by decide) dX2_cover_15 ?_
    refine v_top (y := st3 w S T k) (by rw [y4]; exact (har k (by omega)).2.2.2) ?_
    refine v_istore_n hz dX2_cover_16 (by decide) rfl ?_
    refine v_aload_n hz dX2_cover_17 rfl ?_
    refine v_getR hz fX2_71 (by assumption) (by assumption) dX2_cover_18 ?_
    refine v_iload_n hz dX2_cover_21 rfl ?_
    refine v_ialdN hz (by assumption) (by assumption) (by omega) (by decide) dX2_cover_22 ?_
    refine v_top (y := nI (knd w S T (pos w S T k).1 (pos w S T k).2)) (by rw [y1]; exact (har k (by omega)).1) ?_
    first | with_reducible refine v_if_neB hz 54 dX2_cover_23 (by decide) (fun c23 => ?_) (fun c23 => ?_) | with_reducible refine v_if_neN hz 54 (by omega) dX2_cover_23 (by decide) (fun c23 => ?_) (fun c23 => ?_) | refine v_if_ne hz 54 dX2_cover_23 (by decide) (fun c23 => ?_) (fun c23 => ?_)
    · first | refine v_iincN hz 1 dX2_cover_54 (by decide) rfl (by decide) rfl ?_ | refine v_iinc hz dX2_cover_54 rfl (by decide) rfl ?_
      refine v_goto hz 2 dX2_cover_57 (by decide) ?_
      first
      | (exact v_sub (ih (k + 1) _ (by omega) (by omega) hF (fun x hx => by rw [hcv x hx, cvs_s]; congr 1; simp; intro a1 a2; omega)) ⟨rfl, rfl, rfl, trivial⟩)
      | (exact v_sub (ih (k + 1) _ (by omega) (by omega) (fun a ha => by rw [u2_ne ha]; exact hF a ha) (fun x hx => by
          by_cases e : x = (pos w S T k).2
          · rw [e, u2_eq, cvs_s]; refine (bz_t ?_).symm; simp; exact Or.inr ⟨by omega, by omega⟩
          · rw [u2_at e, hcv x hx, cvs_s]; congr 1; simp; intro a1 a2 a3; exact absurd a3.symm e)) ⟨rfl, rfl, rfl, trivial⟩)
    · refine v_aload_n hz dX2_cover_26 rfl ?_
      refine v_getR hz fX2_74 (by assumption) (by assumption) dX2_cover_27 ?_
      refine v_iload_n hz dX2_cover_30 rfl ?_
      refine v_ialdN hz (by assumption) (by assumption) (by omega) (by decide) dX2_cover_31 ?_
      refine v_top (y := nI (stc w S T k)) (by rw [y2]; exact (har k (by omega)).2.1) ?_
      first | with_reducible refine v_if_neB hz 54 dX2_cover_32 (by decide) (fun c32 => ?_) (fun c32 => ?_) | with_reducible refine v_if_neN hz 54 (by omega) dX2_cover_32 (by decide) (fun c32 => ?_) (fun c32 => ?_) | refine v_if_ne hz 54 dX2_cover_32 (by decide) (fun c32 => ?_) (fun c32 => ?_)
      · first | refine v_iincN hz 1 dX2_cover_54 (by decide) rfl (by decide) rfl ?_ | refine v_iinc hz dX2_cover_54 rfl (by decide) rfl ?_
        refine v_goto hz 2 dX2_cover_57 (by decide) ?_
        first
        | (exact v_sub (ih (k + 1) _ (by omega) (by omega) hF (fun x hx => by rw [hcv x hx, cvs_s]; congr 1; simp; intro a1 a2; omega)) ⟨rfl, rfl, rfl, trivial⟩)
        | (exact v_sub (ih (k + 1) _ (by omega) (by omega) (fun a ha => by rw [u2_ne ha]; exact hF a ha) (fun x hx => by
            by_cases e : x = (pos w S T k).2
            · rw [e, u2_eq, cvs_s]; refine (bz_t ?_).symm; simp; exact Or.inr ⟨by omega, by omega⟩
            · rw [u2_at e, hcv x hx, cvs_s]; congr 1; simp; intro a1 a2 a3; exact absurd a3.symm e)) ⟨rfl, rfl, rfl, trivial⟩)
      · refine v_iload_n hz dX2_cover_35 rfl ?_
        have k0 : knd w S T (pos w S T k).1 (pos w S T k).2 = 0 := by omega
        have jlt := knd_0 k0
        refine v_top (y := nI (pos w S T k).2) (by unfold st3; rw [if_neg (by omega)]) ?_
        refine v_aload_n hz dX2_cover_36 rfl ?_
        refine v_getR hz fX2_22 (by assumption) (by assumption) dX2_cover_37 ?_
        refine v_alenN hz (by omega) (by assumption) dX2_cover_40 ?_
        refine v_callSi hz lX2_77 (cX7_isWithin_ok _ _ _ _ _ _ _ _) rfl rfl (Nat.le_of_ble_eq_true rfl) (by decide) ⟨Nat.zero_le _, Nat.zero_le _⟩ dX2_cover_41 (fun r I1 h41 => ?_)
        obtain ⟨rfl, rfl⟩ := h41
        refine v_top (within_N (by omega) (by omega)) ?_
        first | with_reducible refine v_if_eqB hz 54 dX2_cover_44 (by decide) (fun c44 => ?_) (fun c44 => ?_) | with_reducible refine v_if_eqN hz 54 (by omega) dX2_cover_44 (by decide) (fun c44 => ?_) (fun c44 => ?_) | refine v_if_eq hz 54 dX2_cover_44 (by decide) (fun c44 => ?_) (fun c44 => ?_)
        · exact absurd (show (pos w S T k).2 < 8 by omega) c44
        · refine v_aload_n hz dX2_cover_47 rfl ?_
          refine v_getR hz fX2_22 (by assumption) (by assumption) dX2_cover_48 ?_
          refine v_iload_n hz dX2_cover_51 rfl ?_
          refine v_top (y := nI (pos w S T k).2) (by unfold st3; rw [if_neg (by omega)]) ?_
          refine v_ic (v := nI 1) hz dX2_cover_52 (by decide) ?_
          refine v_zastN hz (by assumption) (by assumption) (by omega) (by decide) (by first | exact Or.inl rfl | exact Or.inr rfl | exact bz_01) dX2_cover_53 ?_
          first | refine v_iincN hz 1 dX2_cover_54 (by decide) rfl (by decide) rfl ?_ | refine v_iinc hz dX2_cover_54 rfl (by decide) rfl ?_
          refine v_goto hz 2 dX2_cover_57 (by decide) ?_
          first
          | (exact v_sub (ih (k + 1) _ (by omega) (by omega) hF (fun x hx => by rw [hcv x hx, cvs_s]; congr 1; simp; intro a1 a2; omega)) ⟨rfl, rfl, rfl, trivial⟩)
          | (exact v_sub (ih (k + 1) _ (by omega) (by omega) (fun a ha => by rw [u2_ne ha]; exact hF a ha) (fun x hx => by
              by_cases e : x = (pos w S T k).2
              · rw [e, u2_eq, cvs_s]; refine (bz_t ?_).symm; simp; exact Or.inr ⟨by omega, by omega⟩
              · rw [u2_at e, hcv x hx, cvs_s]; congr 1; simp; intro a1 a2 a3; exact absurd a3.symm e)) ⟨rfl, rfl, rfl, trivial⟩)
set_option maxHeartbeats 4000000 in
set_option maxRecDepth 100000 in
theorem cX2_cover_ok (l : Launch) (g : Gz) (κ : Kz) (I : Iz) (R : Rz) (J : Jz) (A : Nat → Nat) (hf : LFg κ R A) (b n w : Nat) (S T : Sg) (cv : Nat → Bool) (hc : LCg κ R A b) (hb : 60 ≤ b) (hS : okS S) (hT : okS T) (hw : w ≤ 20) (h1 : stpC I A b w S T n) (hcv : ∀ x, x < 8 → I (A 14) x = bz (cv x = true)) : Ct l mX2_cover 0 0 g [.ref (A 11), .ref (A b)] κ I R J (Sv κ R J (fun I1 => Fcv A I I1 ∧ ∀ x, x < 8 → I1 (A 14) x = bz (cvs w S T cv n x = true))) := by
  refine ct_of (by decide) (Nat.le_of_ble_eq_true rfl) ?_
  intro z hz hr hrc hrs
  have hz : Am z cX2_cover RX2 4 1 := hz
  have hr : Rt z yX2_cover none 0 0 _ := hr
  show V z 4 0 0 0 [(0, .ref (A 11)), (1, .ref (A b))] [] κ I R J
  obtain ⟨hk, ho11, ⟨hR0, hK12, hN12, hrow⟩, ⟨hR1, hK13, hN13, ho13⟩, ⟨hR2, hK14, hN14, ho14⟩⟩ := id hf
  have n13 : A 11 ≠ A 13 := tag_ne ho11 ho13 (by decide)
  have n14 : A 11 ≠ A 14 := tag_ne ho11 ho14 (by decide)
  have n34 : A 13 ≠ A 14 := tag_ne ho13 ho14 (by decide)
  refine v_ic (v := nI 0) hz dX2_cover_0 (by decide) ?_
  refine v_istore_n hz dX2_cover_1 (by decide) rfl ?_
  exact v_sub (lp_X2_cover hf hz hc hb hS hT hw h1 hr (n + 1) 0 I (by omega) (by omega) (fun _ _ => rfl) hcv) ⟨rfl, rfl, rfl, trivial⟩
