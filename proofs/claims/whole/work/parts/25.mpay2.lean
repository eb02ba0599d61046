theorem v_gen {z : Zz} {nL k n pc : Nat} {lv : List (Nat × Value)} {st : List Value} {κ : Kz} {I : Iz} {R : Rz} {J : Jz} (h : ∀ I2, I2 = I → V z nL k n pc lv st κ I2 R J) : V z nL k n pc lv st κ I R J := h I rfl
def payP (I : Iz) (A : Nat → Nat) (w : Nat) (S T : Sg) (i q : Nat) : Prop := ∀ i' j', i' ≤ S.1 → j' ≤ T.1 → (i < i' ∨ (i' = i ∧ q ≤ j')) → I (A 146) (9 * i' + j') = nI (pay w S T i' j')
def payB (I : Iz) (A : Nat → Nat) (w : Nat) (S T : Sg) (i q : Nat) : Prop := ∀ i' j', i' < S.1 → j' < T.1 → (i < i' ∨ (i' = i ∧ q ≤ j')) → I (A 147) (8 * i' + j') = nI (bcn 1048576 w S T i' j')
theorem payP.put {I : Iz} {A : Nat → Nat} {w : Nat} {S T : Sg} {i q x : Nat} (h : payP I A w S T i (q + 1)) (hm : T.1 ≤ 8) (hq : q ≤ T.1) (hx : x = pay w S T i q) : payP (u2 I (A 146) (9 * i + q) (nI x)) A w S T i q := by
  intro i' j' h1 h2 h3
  by_cases e : i' = i ∧ j' = q
  · obtain ⟨rfl, rfl⟩ := e
    rw [u2_eq, hx]
  · rw [u2_at (by omega)]
    exact h i' j' h1 h2 (by omega)
theorem payB.put {I : Iz} {A : Nat → Nat} {w : Nat} {S T : Sg} {i q : Nat} {x : Int32} (h : payB I A w S T i (q + 1)) (hm : T.1 ≤ 8) (hq : q < T.1) (hx : x = nI (bcn 1048576 w S T i q)) : payB (u2 I (A 147) (8 * i + q) x) A w S T i q := by
  intro i' j' h1 h2 h3
  by_cases e : i' = i ∧ j' = q
  · obtain ⟨rfl, rfl⟩ := e
    rw [u2_eq, hx]
  · rw [u2_at (by omega)]
    exact h i' j' h1 h2 (by omega)
theorem payP.keep {I I1 : Iz} {A : Nat → Nat} {w : Nat} {S T : Sg} {i q : Nat} (h : payP I A w S T i q) (e : I1 (A 146) = I (A 146)) : payP I1 A w S T i q := by
  unfold payP
  rw [e]
  exact h
theorem payB.keep {I I1 : Iz} {A : Nat → Nat} {w : Nat} {S T : Sg} {i q : Nat} (h : payB I A w S T i q) (e : I1 (A 147) = I (A 147)) : payB I1 A w S T i q := by
  unfold payB
  rw [e]
  exact h
theorem payB.skip {I : Iz} {A : Nat → Nat} {w : Nat} {S T : Sg} {i q : Nat} (h : payB I A w S T i (q + 1)) (e : ¬ (i < S.1 ∧ q < T.1)) : payB I A w S T i q := fun i' j' h1 h2 h3 => h i' j' h1 h2 (by omega)
theorem bcn_le {N w : Nat} {S T : Sg} {i j : Nat} (hN : 400 ≤ N) (h1 : S.2.1 i ≤ 12) (h2 : T.2.1 j ≤ 12) (hw : w ≤ 20) : bcn N w S T i j ≤ N := by
  rcases bcq_cases N w (S.2.1 i) (S.2.2.1 i) (S.2.2.2 i) (T.2.1 j) (T.2.2.1 j) (T.2.2.2 j) h1 h2 hw with h | h
  · unfold bcn; omega
  · unfold bcn; rw [h]; exact Nat.le_refl _
theorem bcn_big {N w : Nat} {S T : Sg} {i j x y : Nat} (hN : 1000 ≤ N) (h1 : S.2.1 i ≤ 12) (h2 : T.2.1 j ≤ 12) (hw : w ≤ 20) (hy : y ≤ 400) : min (bcn N w S T i j + x) y = min (bcn 1000000 w S T i j + x) y := by
  unfold bcn
  rcases bcq_N (N := N) (D1 := S.2.2.1 i) (D2 := T.2.2.1 j) (T1 := S.2.2.2 i) (T2 := T.2.2.2 j) h1 h2 hw with h | ⟨h, h'⟩
  · rw [h]
  · rw [h, h']; omega
theorem bcn_at {N w : Nat} {S T : Sg} {i j x y : Nat} (hN : 1000 ≤ N) (h1 : S.2.1 i ≤ 12) (h2 : T.2.1 j ≤ 12) (hw : w ≤ 20) (hy : y ≤ 400) (h : bcn N w S T i j + x = y) : bcn N w S T i j = bcn 1000000 w S T i j := by
  unfold bcn at h ⊢
  rcases bcq_N (N := N) (D1 := S.2.2.1 i) (D2 := T.2.2.1 j) (T1 := S.2.2.2 i) (T2 := T.2.2.2 j) h1 h2 hw with h3 | ⟨h3, h4⟩
  · exact h3
  · rw [h3] at h; omega
theorem bcn_no {N w : Nat} {S T : Sg} {i j x y : Nat} (h1 : S.2.1 i ≤ 12) (h2 : T.2.1 j ≤ 12) (hw : w ≤ 20) (hy : y ≤ 400) (h : ¬ bcn N w S T i j + x = y) : ¬ bcn 1000000 w S T i j + x = y := by
  unfold bcn at h ⊢
  rcases bcq_N (N := N) (D1 := S.2.2.1 i) (D2 := T.2.2.1 j) (T1 := S.2.2.2 i) (T2 := T.2.2.2 j) h1 h2 hw with h3 | ⟨h3, h4⟩
  · rw [← h3]; exact h
  · rw [h4]; omega
/-! the four forms of a place's least cost, as the reference comes by it -/
theorem pv_nm {w : Nat} {S T : Sg} {i j : Nat} (hi : i = S.1) (hj : j = T.1) : 0 = pay w S T i j := by rw [hi, hj, pay_nm]
theorem pv_nj {w : Nat} {S T : Sg} {i j : Nat} (hw : w ≤ 20) (hS : S.1 ≤ 8) (hT : T.1 ≤ 8) (hi : i = S.1) (hj : j < T.1) : min 1048576 (cst w (T.2.1 j) + pay w S T i (j + 1)) = pay w S T i j := by
  have := pay_le hw hS hT i (j + 1)
  have := cst_le (L := T.2.1 j) hw
  subst hi
  rw [pay_nj hj]
  omega
theorem pv_im {w : Nat} {S T : Sg} {i j : Nat} (hw : w ≤ 20) (hS : S.1 ≤ 8) (hT : T.1 ≤ 8) (hi : i < S.1) (hj : j = T.1) : min 1048576 (cst w (S.2.1 i) + pay w S T (i + 1) j) = pay w S T i j := by
  have := pay_le hw hS hT (i + 1) j
  have := cst_le (L := S.2.1 i) hw
  subst hj
  rw [pay_im hi]
  omega
theorem pv_ij {w : Nat} {S T : Sg} {i j : Nat} (hw : w ≤ 20) (hS : S.1 ≤ 8) (hT : T.1 ≤ 8) (hi : i < S.1) (hj : j < T.1) (h1 : S.2.1 i ≤ 12) (h2 : T.2.1 j ≤ 12) :
    min (min (min 1048576 (bcn 1048576 w S T i j + pay w S T (i + 1) (j + 1))) (cst w (S.2.1 i) + pay w S T (i + 1) j)) (cst w (T.2.1 j) + pay w S T i (j + 1)) = pay w S T i j := by
  have a1 := pay_le hw hS hT (i + 1) j
  have a2 := pay_le hw hS hT i (j + 1)
  have a3 := cst_le (L := S.2.1 i) hw
  have a4 := cst_le (L := T.2.1 j) hw
  have a5 := bcn_big (N := 1048576) (S := S) (T := T) (i := i) (j := j) (x := pay w S T (i + 1) (j + 1)) (y := min (cst w (S.2.1 i) + pay w S T (i + 1) j) (cst w (T.2.1 j) + pay w S T i (j + 1))) (by decide) h1 h2 hw (by omega)
  rw [pay_ij hi hj, ← a5]
  omega
set_option maxHeartbeats 4000000 in
set_option maxRecDepth 100000 in
theorem lp_layPay_in {z : Zz} {κ : Kz} {R : Rz} {J : Jz} {A : Nat → Nat} (hz : Am z cX8_layPay RX8 6 4) (hm : LM κ R A) {I0 : Iz} {w s1 s2 : Nat} {S T : Sg} (hw : wt I0 A w) (h1 : msg I0 A s1 S) (h2 : msg I0 A s2 T) (i : Nat) (hi : i ≤ S.1) (K : ∀ I1, Fm [145, 146, 147] A I0 I1 → payP I1 A w S T i 0 → payB I1 A w S T i 0 → V z 6 0 0 255 [(0, .ref (A 130)), (1, .int (nI s1)), (2, .int (nI s2)), (3, .int (nI i))] [] κ I1 R J) :
    ∀ (q : Nat) (I : Iz), q ≤ T.1 + 1 → Fm [145, 146, 147] A I0 I → payP I A w S T i q → payB I A w S T i q → V z 6 0 0 19 [(0, .ref (A 130)), (1, .int (nI s1)), (2, .int (nI s2)), (3, .int (nI i)), (4, .int (ip q))] [] κ I R J := by
  have hk := hm.k
  have ho := hm.o
  have hR4 := hm.r4
  have hK4 := hm.k4
  have hN4 := hm.n4
  have hO4 := hm.o4
  have hR16 := hm.r16
  have hK16 := hm.k16
  have hN16 := hm.n16
  have hO16 := hm.o16
  have hR17 := hm.r17
  have hK17 := hm.k17
  have hN17 := hm.n17
  have hO17 := hm.o17
  intro q
  induction q with
  | zero =>
    intro I hq hC hP hB
    refine v_iload hz dX8_layPay_19 rfl ?_
    refine v_if_lt hz 255 dX8_layPay_21 (by decide) (fun c21 => ?_) (fun c21 => ?_)
    · exact v_sub (K I hC hP hB) ⟨rfl, rfl, rfl, rfl, trivial⟩
    · exact absurd (by decide : ip 0 < 0) c21
  | succ q ih =>
  intro I hq hC hP hB
  have hw0 : I (A 130) = I0 (A 130) := hm.fm hC 0 (by decide) (by decide)
  have e4 : I (A 134) = I0 (A 134) := hm.fm hC 4 (by decide) (by decide)
  have e6 : I (A 136) = I0 (A 136) := hm.fm hC 6 (by decide) (by decide)
  have e7 : I (A 137) = I0 (A 137) := hm.fm hC 7 (by decide) (by decide)
  have e8 : I (A 138) = I0 (A 138) := hm.fm hC 8 (by decide) (by decide)
  have g1 : msg I A s1 S := h1.keep e4 e6 e7 e8
  have g2 : msg I A s2 T := h2.keep e4 e6 e7 e8
  have gw : I (A 130) 9 = nI w := by rw [hw0]; exact hw.1
  have hs1 := h1.1
  have hs2 := h2.1
  have hS := h1.2.1
  have hT := h2.2.1
  have hw2 := hw.2.2
  have m1 := g1.2.2.1
  have m2 := g2.2.2.1
  show V z 6 0 0 19 [(0, .ref (A 130)), (1, .int (nI s1)), (2, .int (nI s2)), (3, .int (nI i)), (4, .int (nI q))] [] κ I R J
  refine v_iload hz dX8_layPay_19 rfl ?_
  refine v_if_lt hz 255 dX8_layPay_21 (by decide) (fun c21 => ?_) (fun c21 => ?_)
  · exact absurd c21 (nI_pos (by omega))
  · refine v_iload_n hz dX8_layPay_24 rfl ?_
    refine v_aload_n hz dX8_layPay_25 rfl ?_
    refine v_getR hz fX8_13 (by assumption) (by assumption) dX8_layPay_26 ?_
    refine v_iload_n hz dX8_layPay_29 rfl ?_
    refine v_ialdN hz (by assumption) (by assumption) (by omega) (by decide) dX8_layPay_30 ?_
    refine v_top m1 ?_
    first | with_reducible refine v_icmp_neN hz 49 (by omega) (by omega) dX8_layPay_31 (by decide) (fun c31 => ?_) (fun c31 => ?_) | refine v_icmp_ne hz 49 dX8_layPay_31 (by decide) (fun c31 => ?_) (fun c31 => ?_)
    · first
      | (exfalso; omega)
      | (refine v_ldc (v := 1048576) hz (tg_mem 936 (by decide +kernel) rfl) dX8_layPay_49 ?_
         refine v_top (y := nI 1048576) rfl ?_
         refine v_istore hz dX8_layPay_51 (by decide) rfl ?_
         refine v_iload_n hz dX8_layPay_53 rfl ?_
         refine v_aload_n hz dX8_layPay_54 rfl ?_
         refine v_getR hz fX8_13 (by assumption) (by assumption) dX8_layPay_55 ?_
         refine v_iload_n hz dX8_layPay_58 rfl ?_
         refine v_ialdN hz (by assumption) (by assumption) (by omega) (by decide) dX8_layPay_59 ?_
         refine v_top m1 ?_
         first | with_reducible refine v_icmp_geN hz 139 (by omega) (by omega) dX8_layPay_60 (by decide) (fun c60 => ?_) (fun c60 => ?_) | refine v_icmp_ge hz 139 dX8_layPay_60 (by decide) (fun c60 => ?_) (fun c60 => ?_)
         · first
           | (exfalso; omega)
           | (refine v_iload_n hz dX8_layPay_139 rfl ?_
              refine v_aload_n hz dX8_layPay_140 rfl ?_
              refine v_getR hz fX8_13 (by assumption) (by assumption) dX8_layPay_141 ?_
              refine v_iload_n hz dX8_layPay_144 rfl ?_
              refine v_ialdN hz (by assumption) (by assumption) (by omega) (by decide) dX8_layPay_145 ?_
              refine v_top m1 ?_
              first | with_reducible refine v_icmp_geN hz 182 (by omega) (by omega) dX8_layPay_146 (by decide) (fun c146 => ?_) (fun c146 => ?_) | refine v_icmp_ge hz 182 dX8_layPay_146 (by decide) (fun c146 => ?_) (fun c146 => ?_)
              · first
                | (exfalso; omega)
                | (refine v_iload hz dX8_layPay_182 rfl ?_
                   refine v_istore hz dX8_layPay_184 (by decide) rfl ?_
                   refine v_iload hz dX8_layPay_186 rfl ?_
                   refine v_aload_n hz dX8_layPay_188 rfl ?_
                   refine v_getR hz fX8_13 (by assumption) (by assumption) dX8_layPay_189 ?_
                   refine v_iload_n hz dX8_layPay_192 rfl ?_
                   refine v_ialdN hz (by assumption) (by assumption) (by omega) (by decide) dX8_layPay_193 ?_
                   refine v_top m2 ?_
                   first | with_reducible refine v_icmp_geN hz 231 (by omega) (by omega) dX8_layPay_194 (by decide) (fun c194 => ?_) (fun c194 => ?_) | refine v_icmp_ge hz 231 dX8_layPay_194 (by decide) (fun c194 => ?_) (fun c194 => ?_)
                   · first
                     | (exfalso; omega)
                     | (refine v_iload hz dX8_layPay_231 rfl ?_
                        refine v_istore hz dX8_layPay_233 (by decide) rfl ?_
                        refine v_aload_n hz dX8_layPay_235 rfl ?_
                        refine v_getR hz fX8_38 (by assumption) (by assumption) dX8_layPay_236 ?_
                        refine v_bi (v := nI 9) hz dX8_layPay_239 (by decide) ?_
                        refine v_iload_n hz dX8_layPay_241 rfl ?_
                        first | with_reducible refine v_imulN hz dX8_layPay_242 ?_ | refine v_imul hz dX8_layPay_242 ?_
                        refine v_iload hz dX8_layPay_243 rfl ?_
                        first | with_reducible refine v_iaddN hz dX8_layPay_245 ?_ | refine v_iadd hz dX8_layPay_245 ?_
                        refine v_iload hz dX8_layPay_246 rfl ?_
                        refine v_iastN hz (by assumption) (by assumption) (by omega) (by decide) dX8_layPay_248 ?_
                        refine v_iincE hz dX8_layPay_249 rfl (ip_dec q) (by decide) rfl ?_
                        refine v_goto hz 19 dX8_layPay_252 (by decide) ?_
                        exact v_sub (ih _ (by omega) (hC.put (by decide)) (hP.put hT (by omega) (by first | exact pv_nm (by omega) (by omega) | exact pv_nj hw2 hS hT (by omega) (by omega) | exact pv_im hw2 hS hT (by omega) (by omega) | exact pv_ij hw2 hS hT (by omega) (by omega) li lj)) (by first | exact hB.keep (u2_ne (hm.ne 17 16 (by decide) (by decide) (by decide))) | exact (hB.skip (by omega)).keep (u2_ne (hm.ne 17 16 (by decide) (by decide) (by decide))))) ⟨rfl, rfl, rfl, rfl, rfl, trivial⟩)
                   · first
                     | (exfalso; omega)
                     | (refine v_iload hz dX8_layPay_197 rfl ?_
                        refine v_aload_n hz dX8_layPay_199 rfl ?_
                        refine v_bi (v := nI 8) hz dX8_layPay_200 (by decide) ?_
                        refine v_iload_n hz dX8_layPay_202 rfl ?_
                        first | with_reducible refine v_imulN hz dX8_layPay_203 ?_ | refine v_imul hz dX8_layPay_203 ?_
                        refine v_iload hz dX8_layPay_204 rfl ?_
                        first | with_reducible refine v_iaddN hz dX8_layPay_206 ?_ | refine v_iadd hz dX8_layPay_206 ?_
                        refine v_callVi hz lX8_150 (cX8_costOf_ok _ _ _ _ _ _ A hm (8 * s2 + q) _ w (by omega) (g2.2.2.2 q (by omega)).1.2.1 (g2.2.2.2 q (by omega)).1.2.2.1 gw) (by assumption) rfl rfl (Nat.le_of_ble_eq_true rfl) (by decide) ⟨Nat.zero_le _, Nat.zero_le _⟩ dX8_layPay_207 (fun r I1 h207 => ?_)
                        obtain ⟨rfl, rfl⟩ := h207
                        have b6 := cst_le (L := T.2.1 q) hw2
                        refine v_aload_n hz dX8_layPay_210 rfl ?_
                        refine v_getR hz fX8_38 (by assumption) (by assumption) dX8_layPay_211 ?_
                        refine v_bi (v := nI 9) hz dX8_layPay_214 (by decide) ?_
                        refine v_iload_n hz dX8_layPay_216 rfl ?_
                        first | with_reducible refine v_imulN hz dX8_layPay_217 ?_ | refine v_imul hz dX8_layPay_217 ?_
                        refine v_iload hz dX8_layPay_218 rfl ?_
                        first | with_reducible refine v_iaddN hz dX8_layPay_220 ?_ | refine v_iadd hz dX8_layPay_220 ?_
                        refine v_ic (v := nI 1) hz dX8_layPay_221 (by decide) ?_
                        first | with_reducible refine v_iaddN hz dX8_layPay_222 ?_ | refine v_iadd hz dX8_layPay_222 ?_
                        refine v_ialdN hz (by assumption) (by assumption) (by omega) (by decide) dX8_layPay_223 ?_
                        refine v_top (y := nI (pay w S T i (q + 1))) (hP i (q + 1) (by omega) (by omega) (by omega)) ?_
                        have b7 := pay_le hw2 hS hT i (q + 1)
                        first | with_reducible refine v_iaddN hz dX8_layPay_224 ?_ | refine v_iadd hz dX8_layPay_224 ?_
                        refine v_callSi hz lX8_133 (cX8_least_ok _ _ _ _ _ _ _ _) rfl rfl (Nat.le_of_ble_eq_true rfl) (by decide) ⟨Nat.zero_le _, Nat.zero_le _⟩ dX8_layPay_225 (fun r I1 h225 => ?_)
                        obtain ⟨rfl, rfl⟩ := h225
                        refine v_top (nI_min (by omega) (by omega)) ?_
                        refine v_goto hz 233 dX8_layPay_228 (by decide) ?_
                        refine v_istore hz dX8_layPay_233 (by decide) rfl ?_
                        refine v_aload_n hz dX8_layPay_235 rfl ?_
                        refine v_getR hz fX8_38 (by assumption) (by assumption) dX8_layPay_236 ?_
                        refine v_bi (v := nI 9) hz dX8_layPay_239 (by decide) ?_
                        refine v_iload_n hz dX8_layPay_241 rfl ?_
                        first | with_reducible refine v_imulN hz dX8_layPay_242 ?_ | refine v_imul hz dX8_layPay_242 ?_
                        refine v_iload hz dX8_layPay_243 rfl ?_
                        first | with_reducible refine v_iaddN hz dX8_layPay_245 ?_ | refine v_iadd hz dX8_layPay_245 ?_
                        refine v_iload hz dX8_layPay_246 rfl ?_
                        refine v_iastN hz (by assumption) (by assumption) (by omega) (by decide) dX8_layPay_248 ?_
                        refine v_iincE hz dX8_layPay_249 rfl (ip_dec q) (by decide) rfl ?_
                        refine v_goto hz 19 dX8_layPay_252 (by decide) ?_
                        exact v_sub (ih _ (by omega) (hC.put (by decide)) (hP.put hT (by omega) (by first | exact pv_nm (by omega) (by omega) | exact pv_nj hw2 hS hT (by omega) (by omega) | exact pv_im hw2 hS hT (by omega) (by omega) | exact pv_ij hw2 hS hT (by omega) (by omega) li lj)) (by first | exact hB.keep (u2_ne (hm.ne 17 16 (by decide) (by decide) (by decide))) | exact (hB.skip (by omega)).keep (u2_ne (hm.ne 17 16 (by decide) (by decide) (by decide))))) ⟨rfl, rfl, rfl, rfl, rfl, trivial⟩))
              · first
                | (exfalso; omega)
                | (refine v_iload hz dX8_layPay_149 rfl ?_
                   refine v_aload_n hz dX8_layPay_151 rfl ?_
                   refine v_bi (v := nI 8) hz dX8_layPay_152 (by decide) ?_
                   refine v_iload_n hz dX8_layPay_154 rfl ?_
                   first | with_reducible refine v_imulN hz dX8_layPay_155 ?_ | refine v_imul hz dX8_layPay_155 ?_
                   refine v_iload_n hz dX8_layPay_156 rfl ?_
                   first | with_reducible refine v_iaddN hz dX8_layPay_157 ?_ | refine v_iadd hz dX8_layPay_157 ?_
                   refine v_callVi hz lX8_150 (cX8_costOf_ok _ _ _ _ _ _ A hm (8 * s1 + i) _ w (by omega) (g1.2.2.2 i (by omega)).1.2.1 (g1.2.2.2 i (by omega)).1.2.2.1 gw) (by assumption) rfl rfl (Nat.le_of_ble_eq_true rfl) (by decide) ⟨Nat.zero_le _, Nat.zero_le _⟩ dX8_layPay_158 (fun r I1 h158 => ?_)
                   obtain ⟨rfl, rfl⟩ := h158
                   have b4 := cst_le (L := S.2.1 i) hw2
                   refine v_aload_n hz dX8_layPay_161 rfl ?_
                   refine v_getR hz fX8_38 (by assumption) (by assumption) dX8_layPay_162 ?_
                   refine v_bi (v := nI 9) hz dX8_layPay_165 (by decide) ?_
                   refine v_iload_n hz dX8_layPay_167 rfl ?_
                   refine v_ic (v := nI 1) hz dX8_layPay_168 (by decide) ?_
                   first | with_reducible refine v_iaddN hz dX8_layPay_169 ?_ | refine v_iadd hz dX8_layPay_169 ?_
                   first | with_reducible refine v_imulN hz dX8_layPay_170 ?_ | refine v_imul hz dX8_layPay_170 ?_
                   refine v_iload hz dX8_layPay_171 rfl ?_
                   first | with_reducible refine v_iaddN hz dX8_layPay_173 ?_ | refine v_iadd hz dX8_layPay_173 ?_
                   refine v_ialdN hz (by assumption) (by assumption) (by omega) (by decide) dX8_layPay_174 ?_
                   refine v_top (y := nI (pay w S T (i + 1) q)) (hP (i + 1) q (by omega) (by omega) (by omega)) ?_
                   have b5 := pay_le hw2 hS hT (i + 1) q
                   first | with_reducible refine v_iaddN hz dX8_layPay_175 ?_ | refine v_iadd hz dX8_layPay_175 ?_
                   refine v_callSi hz lX8_133 (cX8_least_ok _ _ _ _ _ _ _ _) rfl rfl (Nat.le_of_ble_eq_true rfl) (by decide) ⟨Nat.zero_le _, Nat.zero_le _⟩ dX8_layPay_176 (fun r I1 h176 => ?_)
                   obtain ⟨rfl, rfl⟩ := h176
                   refine v_top (nI_min (by omega) (by omega)) ?_
                   refine v_goto hz 184 dX8_layPay_179 (by decide) ?_
                   refine v_istore hz dX8_layPay_184 (by decide) rfl ?_
                   refine v_iload hz dX8_layPay_186 rfl ?_
                   refine v_aload_n hz dX8_layPay_188 rfl ?_
                   refine v_getR hz fX8_13 (by assumption) (by assumption) dX8_layPay_189 ?_
                   refine v_iload_n hz dX8_layPay_192 rfl ?_
                   refine v_ialdN hz (by assumption) (by assumption) (by omega) (by decide) dX8_layPay_193 ?_
                   refine v_top m2 ?_
                   first | with_reducible refine v_icmp_geN hz 231 (by omega) (by omega) dX8_layPay_194 (by decide) (fun c194 => ?_) (fun c194 => ?_) | refine v_icmp_ge hz 231 dX8_layPay_194 (by decide) (fun c194 => ?_) (fun c194 => ?_)
                   · first
                     | (exfalso; omega)
                     | (refine v_iload hz dX8_layPay_231 rfl ?_
                        refine v_istore hz dX8_layPay_233 (by decide) rfl ?_
                        refine v_aload_n hz dX8_layPay_235 rfl ?_
                        refine v_getR hz fX8_38 (by assumption) (by assumption) dX8_layPay_236 ?_
                        refine v_bi (v := nI 9) hz dX8_layPay_239 (by decide) ?_
                        refine v_iload_n hz dX8_layPay_241 rfl ?_
                        first | with_reducible refine v_imulN hz dX8_layPay_242 ?_ | refine v_imul hz dX8_layPay_242 ?_
                        refine v_iload hz dX8_layPay_243 rfl ?_
                        first | with_reducible refine v_iaddN hz dX8_layPay_245 ?_ | refine v_iadd hz dX8_layPay_245 ?_
                        refine v_iload hz dX8_layPay_246 rfl ?_
                        refine v_iastN hz (by assumption) (by assumption) (by omega) (by decide) dX8_layPay_248 ?_
                        refine v_iincE hz dX8_layPay_249 rfl (ip_dec q) (by decide) rfl ?_
                        refine v_goto hz 19 dX8_layPay_252 (by decide) ?_
                        exact v_sub (ih _ (by omega) (hC.put (by decide)) (hP.put hT (by omega) (by first | exact pv_nm (by omega) (by omega) | exact pv_nj hw2 hS hT (by omega) (by omega) | exact pv_im hw2 hS hT (by omega) (by omega) | exact pv_ij hw2 hS hT (by omega) (by omega) li lj)) (by first | exact hB.keep (u2_ne (hm.ne 17 16 (by decide) (by decide) (by decide))) | exact (hB.skip (by omega)).keep (u2_ne (hm.ne 17 16 (by decide) (by decide) (by decide))))) ⟨rfl, rfl, rfl, rfl, rfl, trivial⟩)
                   · first
                     | (exfalso; omega)
                     | (refine v_iload hz dX8_layPay_197 rfl ?_
                        refine v_aload_n hz dX8_layPay_199 rfl ?_
                        refine v_bi (v := nI 8) hz dX8_layPay_200 (by decide) ?_
                        refine v_iload_n hz dX8_layPay_202 rfl ?_
                        first | with_reducible refine v_imulN hz dX8_layPay_203 ?_ | refine v_imul hz dX8_layPay_203 ?_
                        refine v_iload hz dX8_layPay_204 rfl ?_
                        first | with_reducible refine v_iaddN hz dX8_layPay_206 ?_ | refine v_iadd hz dX8_layPay_206 ?_
                        refine v_callVi hz lX8_150 (cX8_costOf_ok _ _ _ _ _ _ A hm (8 * s2 + q) _ w (by omega) (g2.2.2.2 q (by omega)).1.2.1 (g2.2.2.2 q (by omega)).1.2.2.1 gw) (by assumption) rfl rfl (Nat.le_of_ble_eq_true rfl) (by decide) ⟨Nat.zero_le _, Nat.zero_le _⟩ dX8_layPay_207 (fun r I1 h207 => ?_)
                        obtain ⟨rfl, rfl⟩ := h207
                        have b6 := cst_le (L := T.2.1 q) hw2
                        refine v_aload_n hz dX8_layPay_210 rfl ?_
                        refine v_getR hz fX8_38 (by assumption) (by assumption) dX8_layPay_211 ?_
                        refine v_bi (v := nI 9) hz dX8_layPay_214 (by decide) ?_
                        refine v_iload_n hz dX8_layPay_216 rfl ?_
                        first | with_reducible refine v_imulN hz dX8_layPay_217 ?_ | refine v_imul hz dX8_layPay_217 ?_
                        refine v_iload hz dX8_layPay_218 rfl ?_
                        first | with_reducible refine v_iaddN hz dX8_layPay_220 ?_ | refine v_iadd hz dX8_layPay_220 ?_
                        refine v_ic (v := nI 1) hz dX8_layPay_221 (by decide) ?_
                        first | with_reducible refine v_iaddN hz dX8_layPay_222 ?_ | refine v_iadd hz dX8_layPay_222 ?_
                        refine v_ialdN hz (by assumption) (by assumption) (by omega) (by decide) dX8_layPay_223 ?_
                        refine v_top (y := nI (pay w S T i (q + 1))) (hP i (q + 1) (by omega) (by omega) (by omega)) ?_
                        have b7 := pay_le hw2 hS hT i (q + 1)
                        first | with_reducible refine v_iaddN hz dX8_layPay_224 ?_ | refine v_iadd hz dX8_layPay_224 ?_
                        refine v_callSi hz lX8_133 (cX8_least_ok _ _ _ _ _ _ _ _) rfl rfl (Nat.le_of_ble_eq_true rfl) (by decide) ⟨Nat.zero_le _, Nat.zero_le _⟩ dX8_layPay_225 (fun r I1 h225 => ?_)
                        obtain ⟨rfl, rfl⟩ := h225
                        refine v_top (nI_min (by omega) (by omega)) ?_
                        refine v_goto hz 233 dX8_layPay_228 (by decide) ?_
                        refine v_istore hz dX8_layPay_233 (by decide) rfl ?_
                        refine v_aload_n hz dX8_layPay_235 rfl ?_
                        refine v_getR hz fX8_38 (by assumption) (by assumption) dX8_layPay_236 ?_
                        refine v_bi (v := nI 9) hz dX8_layPay_239 (by decide) ?_
                        refine v_iload_n hz dX8_layPay_241 rfl ?_
                        first | with_reducible refine v_imulN hz dX8_layPay_242 ?_ | refine v_imul hz dX8_layPay_242 ?_
                        refine v_iload hz dX8_layPay_243 rfl ?_
                        first | with_reducible refine v_iaddN hz dX8_layPay_245 ?_ | refine v_iadd hz dX8_layPay_245 ?_
                        refine v_iload hz dX8_layPay_246 rfl ?_
                        refine v_iastN hz (by assumption) (by assumption) (by omega) (by decide) dX8_layPay_248 ?_
                        refine v_iincE hz dX8_layPay_249 rfl (ip_dec q) (by decide) rfl ?_
                        refine v_goto hz 19 dX8_layPay_252 (by decide) ?_
                        exact v_sub (ih _ (by omega) (hC.put (by decide)) (hP.put hT (by omega) (by first | exact pv_nm (by omega) (by omega) | exact pv_nj hw2 hS hT (by omega) (by omega) | exact pv_im hw2 hS hT (by omega) (by omega) | exact pv_ij hw2 hS hT (by omega) (by omega) li lj)) (by first | exact hB.keep (u2_ne (hm.ne 17 16 (by decide) (by decide) (by decide))) | exact (hB.skip (by omega)).keep (u2_ne (hm.ne 17 16 (by decide) (by decide) (by decide))))) ⟨rfl, rfl, rfl, rfl, rfl, trivial⟩)))
         · first
           | (exfalso; omega)
           | (refine v_iload hz dX8_layPay_63 rfl ?_
              refine v_aload_n hz dX8_layPay_65 rfl ?_
              refine v_getR hz fX8_13 (by assumption) (by assumption) dX8_layPay_66 ?_
              refine v_iload_n hz dX8_layPay_69 rfl ?_
              refine v_ialdN hz (by assumption) (by assumption) (by omega) (by decide) dX8_layPay_70 ?_
              refine v_top m2 ?_
              first | with_reducible refine v_icmp_geN hz 139 (by omega) (by omega) dX8_layPay_71 (by decide) (fun c71 => ?_) (fun c71 => ?_) | refine v_icmp_ge hz 139 dX8_layPay_71 (by decide) (fun c71 => ?_) (fun c71 => ?_)
              · first
                | (exfalso; omega)
                | (refine v_iload_n hz dX8_layPay_139 rfl ?_
                   refine v_aload_n hz dX8_layPay_140 rfl ?_
                   refine v_getR hz fX8_13 (by assumption) (by assumption) dX8_layPay_141 ?_
                   refine v_iload_n hz dX8_layPay_144 rfl ?_
                   refine v_ialdN hz (by assumption) (by assumption) (by omega) (by decide) dX8_layPay_145 ?_
                   refine v_top m1 ?_
                   first | with_reducible refine v_icmp_geN hz 182 (by omega) (by omega) dX8_layPay_146 (by decide) (fun c146 => ?_) (fun c146 => ?_) | refine v_icmp_ge hz 182 dX8_layPay_146 (by decide) (fun c146 => ?_) (fun c146 => ?_)
                   · first
                     | (exfalso; omega)
                     | (refine v_iload hz dX8_layPay_182 rfl ?_
                        refine v_istore hz dX8_layPay_184 (by decide) rfl ?_
                        refine v_iload hz dX8_layPay_186 rfl ?_
                        refine v_aload_n hz dX8_layPay_188 rfl ?_
                        refine v_getR hz fX8_13 (by assumption) (by assumption) dX8_layPay_189 ?_
                        refine v_iload_n hz dX8_layPay_192 rfl ?_
                        refine v_ialdN hz (by assumption) (by assumption) (by omega) (by decide) dX8_layPay_193 ?_
                        refine v_top m2 ?_
                        first | with_reducible refine v_icmp_geN hz 231 (by omega) (by omega) dX8_layPay_194 (by decide) (fun c194 => ?_) (fun c194 => ?_) | refine v_icmp_ge hz 231 dX8_layPay_194 (by decide) (fun c194 => ?_) (fun c194 => ?_)
                        · first
                          | (exfalso; omega)
                          | (refine v_iload hz dX8_layPay_231 rfl ?_
                             refine v_istore hz dX8_layPay_233 (by decide) rfl ?_
                             refine v_aload_n hz dX8_layPay_235 rfl ?_
                             refine v_getR hz fX8_38 (by assumption) (by assumption) dX8_layPay_236 ?_
                             refine v_bi (v := nI 9) hz dX8_layPay_239 (by decide) ?_
                             refine v_iload_n hz dX8_layPay_241 rfl ?_
                             first | with_reducible refine v_imulN hz dX8_layPay_242 ?_ | refine v_imul hz dX8_layPay_242 ?_
                             refine v_iload hz dX8_layPay_243 rfl ?_
                             first | with_reducible refine v_iaddN hz dX8_layPay_245 ?_ | refine v_iadd hz dX8_layPay_245 ?_
                             refine v_iload hz dX8_layPay_246 rfl ?_
                             refine v_iastN hz (by assumption) (by assumption) (by omega) (by decide) dX8_layPay_248 ?_
                             refine v_iincE hz dX8_layPay_249 rfl (ip_dec q) (by decide) rfl ?_
                             refine v_goto hz 19 dX8_layPay_252 (by decide) ?_
                             exact v_sub (ih _ (by omega) (hC.put (by decide)) (hP.put hT (by omega) (by first | exact pv_nm (by omega) (by omega) | exact pv_nj hw2 hS hT (by omega) (by omega) | exact pv_im hw2 hS hT (by omega) (by omega) | exact pv_ij hw2 hS hT (by omega) (by omega) li lj)) (by first | exact hB.keep (u2_ne (hm.ne 17 16 (by decide) (by decide) (by decide))) | exact (hB.skip (by omega)).keep (u2_ne (hm.ne 17 16 (by decide) (by decide) (by decide))))) ⟨rfl, rfl, rfl, rfl, rfl, trivial⟩)
                        · first
                          | (exfalso; omega)
                          | (refine v_iload hz dX8_layPay_197 rfl ?_
                             refine v_aload_n hz dX8_layPay_199 rfl ?_
                             refine v_bi (v := nI 8) hz dX8_layPay_200 (by decide) ?_
                             refine v_iload_n hz dX8_layPay_202 rfl ?_
                             first | with_reducible refine v_imulN hz dX8_layPay_203 ?_ | refine v_imul hz dX8_layPay_203 ?_
                             refine v_iload hz dX8_layPay_204 rfl ?_
                             first | with_reducible refine v_iaddN hz dX8_layPay_206 ?_ | refine v_iadd hz dX8_layPay_206 ?_
                             refine v_callVi hz lX8_150 (cX8_costOf_ok _ _ _ _ _ _ A hm (8 * s2 + q) _ w (by omega) (g2.2.2.2 q (by omega)).1.2.1 (g2.2.2.2 q (by omega)).1.2.2.1 gw) (by assumption) rfl rfl (Nat.le_of_ble_eq_true rfl) (by decide) ⟨Nat.zero_le _, Nat.zero_le _⟩ dX8_layPay_207 (fun r I1 h207 => ?_)
                             obtain ⟨rfl, rfl⟩ := h207
                             have b6 := cst_le (L := T.2.1 q) hw2
                             refine v_aload_n hz dX8_layPay_210 rfl ?_
                             refine v_getR hz fX8_38 (by assumption) (by assumption) dX8_layPay_211 ?_
                             refine v_bi (v := nI 9) hz dX8_layPay_214 (by decide) ?_
                             refine v_iload_n hz dX8_layPay_216 rfl ?_
                             first | with_reducible refine v_imulN hz dX8_layPay_217 ?_ | refine v_imul hz dX8_layPay_217 ?_
                             refine v_iload hz dX8_layPay_218 rfl ?_
                             first | with_reducible refine v_iaddN hz dX8_layPay_220 ?_ | refine v_iadd hz dX8_layPay_220 ?_
                             refine v_ic (v := nI 1) hz dX8_layPay_221 (by decide) ?_
                             first | with_reducible refine v_iaddN hz dX8_layPay_222 ?_ | refine v_iadd hz dX8_layPay_222 ?_
                             refine v_ialdN hz (by assumption) (by assumption) (by omega) (by decide) dX8_layPay_223 ?_
                             refine v_top (y := nI (pay w S T i (q + 1))) (hP i (q + 1) (by omega) (by omega) (by omega)) ?_
                             have b7 := pay_le hw2 hS hT i (q + 1)
                             first | with_reducible refine v_iaddN hz dX8_layPay_224 ?_ | refine v_iadd hz dX8_layPay_224 ?_
                             refine v_callSi hz lX8_133 (cX8_least_ok _ _ _ _ _ _ _ _) rfl rfl (Nat.le_of_ble_eq_true rfl) (by decide) ⟨Nat.zero_le _, Nat.zero_le _⟩ dX8_layPay_225 (fun r I1 h225 => ?_)
                             obtain ⟨rfl, rfl⟩ := h225
                             refine v_top (nI_min (by omega) (by omega)) ?_
                             refine v_goto hz 233 dX8_layPay_228 (by decide) ?_
                             refine v_istore hz dX8_layPay_233 (by decide) rfl ?_
                             refine v_aload_n hz dX8_layPay_235 rfl ?_
                             refine v_getR hz fX8_38 (by assumption) (by assumption) dX8_layPay_236 ?_
                             refine v_bi (v := nI 9) hz dX8_layPay_239 (by decide) ?_
                             refine v_iload_n hz dX8_layPay_241 rfl ?_
                             first | with_reducible refine v_imulN hz dX8_layPay_242 ?_ | refine v_imul hz dX8_layPay_242 ?_
                             refine v_iload hz dX8_layPay_243 rfl ?_
                             first | with_reducible refine v_iaddN hz dX8_layPay_245 ?_ | refine v_iadd hz dX8_layPay_245 ?_
                             refine v_iload hz dX8_layPay_246 rfl ?_
                             refine v_iastN hz (by assumption) (by assumption) (by omega) (by decide) dX8_layPay_248 ?_
                             refine v_iincE hz dX8_layPay_249 rfl (ip_dec q) (by decide) rfl ?_
                             refine v_goto hz 19 dX8_layPay_252 (by decide) ?_
                             exact v_sub (ih _ (by omega) (hC.put (by decide)) (hP.put hT (by omega) (by first | exact pv_nm (by omega) (by omega) | exact pv_nj hw2 hS hT (by omega) (by omega) | exact pv_im hw2 hS hT (by omega) (by omega) | exact pv_ij hw2 hS hT (by omega) (by omega) li lj)) (by first | exact hB.keep (u2_ne (hm.ne 17 16 (by decide) (by decide) (by decide))) | exact (hB.skip (by omega)).keep (u2_ne (hm.ne 17 16 (by decide) (by decide) (by decide))))) ⟨rfl, rfl, rfl, rfl, rfl, trivial⟩))
                   · first
                     | (exfalso; omega)
                     | (refine v_iload hz dX8_layPay_149 rfl ?_
                        refine v_aload_n hz dX8_layPay_151 rfl ?_
                        refine v_bi (v := nI 8) hz dX8_layPay_152 (by decide) ?_
                        refine v_iload_n hz dX8_layPay_154 rfl ?_
                        first | with_reducible refine v_imulN hz dX8_layPay_155 ?_ | refine v_imul hz dX8_layPay_155 ?_
                        refine v_iload_n hz dX8_layPay_156 rfl ?_
                        first | with_reducible refine v_iaddN hz dX8_layPay_157 ?_ | refine v_iadd hz dX8_layPay_157 ?_
                        refine v_callVi hz lX8_150 (cX8_costOf_ok _ _ _ _ _ _ A hm (8 * s1 + i) _ w (by omega) (g1.2.2.2 i (by omega)).1.2.1 (g1.2.2.2 i (by omega)).1.2.2.1 gw) (by assumption) rfl rfl (Nat.le_of_ble_eq_true rfl) (by decide) ⟨Nat.zero_le _, Nat.zero_le _⟩ dX8_layPay_158 (fun r I1 h158 => ?_)
                        obtain ⟨rfl, rfl⟩ := h158
                        have b4 := cst_le (L := S.2.1 i) hw2
                        refine v_aload_n hz dX8_layPay_161 rfl ?_
                        refine v_getR hz fX8_38 (by assumption) (by assumption) dX8_layPay_162 ?_
                        refine v_bi (v := nI 9) hz dX8_layPay_165 (by decide) ?_
                        refine v_iload_n hz dX8_layPay_167 rfl ?_
                        refine v_ic (v := nI 1) hz dX8_layPay_168 (by decide) ?_
                        first | with_reducible refine v_iaddN hz dX8_layPay_169 ?_ | refine v_iadd hz dX8_layPay_169 ?_
                        first | with_reducible refine v_imulN hz dX8_layPay_170 ?_ | refine v_imul hz dX8_layPay_170 ?_
                        refine v_iload hz dX8_layPay_171 rfl ?_
                        first | with_reducible refine v_iaddN hz dX8_layPay_173 ?_ | refine v_iadd hz dX8_layPay_173 ?_
                        refine v_ialdN hz (by assumption) (by assumption) (by omega) (by decide) dX8_layPay_174 ?_
                        refine v_top (y := nI (pay w S T (i + 1) q)) (hP (i + 1) q (by omega) (by omega) (by omega)) ?_
                        have b5 := pay_le hw2 hS hT (i + 1) q
                        first | with_reducible refine v_iaddN hz dX8_layPay_175 ?_ | refine v_iadd hz dX8_layPay_175 ?_
                        refine v_callSi hz lX8_133 (cX8_least_ok _ _ _ _ _ _ _ _) rfl rfl (Nat.le_of_ble_eq_true rfl) (by decide) ⟨Nat.zero_le _, Nat.zero_le _⟩ dX8_layPay_176 (fun r I1 h176 => ?_)
                        obtain ⟨rfl, rfl⟩ := h176
                        refine v_top (nI_min (by omega) (by omega)) ?_
                        refine v_goto hz 184 dX8_layPay_179 (by decide) ?_
                        refine v_istore hz dX8_layPay_184 (by decide) rfl ?_
                        refine v_iload hz dX8_layPay_186 rfl ?_
                        refine v_aload_n hz dX8_layPay_188 rfl ?_
                        refine v_getR hz fX8_13 (by assumption) (by assumption) dX8_layPay_189 ?_
                        refine v_iload_n hz dX8_layPay_192 rfl ?_
                        refine v_ialdN hz (by assumption) (by assumption) (by omega) (by decide) dX8_layPay_193 ?_
                        refine v_top m2 ?_
                        first | with_reducible refine v_icmp_geN hz 231 (by omega) (by omega) dX8_layPay_194 (by decide) (fun c194 => ?_) (fun c194 => ?_) | refine v_icmp_ge hz 231 dX8_layPay_194 (by decide) (fun c194 => ?_) (fun c194 => ?_)
                        · first
                          | (exfalso; omega)
                          | (refine v_iload hz dX8_layPay_231 rfl ?_
                             refine v_istore hz dX8_layPay_233 (by decide) rfl ?_
                             refine v_aload_n hz dX8_layPay_235 rfl ?_
                             refine v_getR hz fX8_38 (by assumption) (by assumption) dX8_layPay_236 ?_
                             refine v_bi (v := nI 9) hz dX8_layPay_239 (by decide) ?_
                             refine v_iload_n hz dX8_layPay_241 rfl ?_
                             first | with_reducible refine v_imulN hz dX8_layPay_242 ?_ | refine v_imul hz dX8_layPay_242 ?_
                             refine v_iload hz dX8_layPay_243 rfl ?_
                             first | with_reducible refine v_iaddN hz dX8_layPay_245 ?_ | refine v_iadd hz dX8_layPay_245 ?_
                             refine v_iload hz dX8_layPay_246 rfl ?_
                             refine v_iastN hz (by assumption) (by assumption) (by omega) (by decide) dX8_layPay_248 ?_
                             refine v_iincE hz dX8_layPay_249 rfl (ip_dec q) (by decide) rfl ?_
                             refine v_goto hz 19 dX8_layPay_252 (by decide) ?_
                             exact v_sub (ih _ (by omega) (hC.put (by decide)) (hP.put hT (by omega) (by first | exact pv_nm (by omega) (by omega) | exact pv_nj hw2 hS hT (by omega) (by omega) | exact pv_im hw2 hS hT (by omega) (by omega) | exact pv_ij hw2 hS hT (by omega) (by omega) li lj)) (by first | exact hB.keep (u2_ne (hm.ne 17 16 (by decide) (by decide) (by decide))) | exact (hB.skip (by omega)).keep (u2_ne (hm.ne 17 16 (by decide) (by decide) (by decide))))) ⟨rfl, rfl, rfl, rfl, rfl, trivial⟩)
                        · first
                          | (exfalso; omega)
                          | (refine v_iload hz dX8_layPay_197 rfl ?_
                             refine v_aload_n hz dX8_layPay_199 rfl ?_
                             refine v_bi (v := nI 8) hz dX8_layPay_200 (by decide) ?_
                             refine v_iload_n hz dX8_layPay_202 rfl ?_
                             first | with_reducible refine v_imulN hz dX8_layPay_203 ?_ | refine v_imul hz dX8_layPay_203 ?_
                             refine v_iload hz dX8_layPay_204 rfl ?_
                             first | with_reducible refine v_iaddN hz dX8_layPay_206 ?_ | refine v_iadd hz dX8_layPay_206 ?_
                             refine v_callVi hz lX8_150 (cX8_costOf_ok _ _ _ _ _ _ A hm (8 * s2 + q) _ w (by omega) (g2.2.2.2 q (by omega)).1.2.1 (g2.2.2.2 q (by omega)).1.2.2.1 gw) (by assumption) rfl rfl (Nat.le_of_ble_eq_true rfl) (by decide) ⟨Nat.zero_le _, Nat.zero_le _⟩ dX8_layPay_207 (fun r I1 h207 => ?_)
                             obtain ⟨rfl, rfl⟩ := h207
                             have b6 := cst_le (L := T.2.1 q) hw2
                             refine v_aload_n hz dX8_layPay_210 rfl ?_
                             refine v_getR hz fX8_38 (by assumption) (by assumption) dX8_layPay_211 ?_
                             refine v_bi (v := nI 9) hz dX8_layPay_214 (by decide) ?_
                             refine v_iload_n hz dX8_layPay_216 rfl ?_
                             first | with_reducible refine v_imulN hz dX8_layPay_217 ?_ | refine v_imul hz dX8_layPay_217 ?_
                             refine v_iload hz dX8_layPay_218 rfl ?_
                             first | with_reducible refine v_iaddN hz dX8_layPay_220 ?_ | refine v_iadd hz dX8_layPay_220 ?_
                             refine v_ic (v := nI 1) hz dX8_layPay_221 (by decide) ?_
                             first | with_reducible refine v_iaddN hz dX8_layPay_222 ?_ | refine v_iadd hz dX8_layPay_222 ?_
                             refine v_ialdN hz (by assumption) (by assumption) (by omega) (by decide) dX8_layPay_223 ?_
                             refine v_top (y := nI (pay w S T i (q + 1))) (hP i (q + 1) (by omega) (by omega) (by omega)) ?_
                             have b7 := pay_le hw2 hS hT i (q + 1)
                             first | with_reducible refine v_iaddN hz dX8_layPay_224 ?_ | refine v_iadd hz dX8_layPay_224 ?_
                             refine v_callSi hz lX8_133 (cX8_least_ok _ _ _ _ _ _ _ _) rfl rfl (Nat.le_of_ble_eq_true rfl) (by decide) ⟨Nat.zero_le _, Nat.zero_le _⟩ dX8_layPay_225 (fun r I1 h225 => ?_)
                             obtain ⟨rfl, rfl⟩ := h225
                             refine v_top (nI_min (by omega) (by omega)) ?_
                             refine v_goto hz 233 dX8_layPay_228 (by decide) ?_
                             refine v_istore hz dX8_layPay_233 (by decide) rfl ?_
                             refine v_aload_n hz dX8_layPay_235 rfl ?_
                             refine v_getR hz fX8_38 (by assumption) (by assumption) dX8_layPay_236 ?_
                             refine v_bi (v := nI 9) hz dX8_layPay_239 (by decide) ?_
                             refine v_iload_n hz dX8_layPay_241 rfl ?_
                             first | with_reducible refine v_imulN hz dX8_layPay_242 ?_ | refine v_imul hz dX8_layPay_242 ?_
                             refine v_iload hz dX8_layPay_243 rfl ?_
                             first | with_reducible refine v_iaddN hz dX8_layPay_245 ?_ | refine v_iadd hz dX8_layPay_245 ?_
                             refine v_iload hz dX8_layPay_246 rfl ?_
                             refine v_iastN hz (by assumption) (by assumption) (by omega) (by decide) dX8_layPay_248 ?_
                             refine v_iincE hz dX8_layPay_249 rfl (ip_dec q) (by decide) rfl ?_
                             refine v_goto hz 19 dX8_layPay_252 (by decide) ?_
                             exact v_sub (ih _ (by omega) (hC.put (by decide)) (hP.put hT (by omega) (by first | exact pv_nm (by omega) (by omega) | exact pv_nj hw2 hS hT (by omega) (by omega) | exact pv_im hw2 hS hT (by omega) (by omega) | exact pv_ij hw2 hS hT (by omega) (by omega) li lj)) (by first | exact hB.keep (u2_ne (hm.ne 17 16 (by decide) (by decide) (by decide))) | exact (hB.skip (by omega)).keep (u2_ne (hm.ne 17 16 (by decide) (by decide) (by decide))))) ⟨rfl, rfl, rfl, rfl, rfl, trivial⟩)))
              · first
                | (exfalso; omega)
                | (refine v_aload_n hz dX8_layPay_74 rfl ?_
                   refine v_getR hz fX8_41 (by assumption) (by assumption) dX8_layPay_75 ?_
                   refine v_bi (v := nI 8) hz dX8_layPay_78 (by decide) ?_
                   refine v_iload_n hz dX8_layPay_80 rfl ?_
                   first | with_reducible refine v_imulN hz dX8_layPay_81 ?_ | refine v_imul hz dX8_layPay_81 ?_
                   refine v_iload hz dX8_layPay_82 rfl ?_
                   first | with_reducible refine v_iaddN hz dX8_layPay_84 ?_ | refine v_iadd hz dX8_layPay_84 ?_
                   refine v_aload_n hz dX8_layPay_85 rfl ?_
                   refine v_bi (v := nI 8) hz dX8_layPay_86 (by decide) ?_
                   refine v_iload_n hz dX8_layPay_88 rfl ?_
                   first | with_reducible refine v_imulN hz dX8_layPay_89 ?_ | refine v_imul hz dX8_layPay_89 ?_
                   refine v_iload_n hz dX8_layPay_90 rfl ?_
                   first | with_reducible refine v_iaddN hz dX8_layPay_91 ?_ | refine v_iadd hz dX8_layPay_91 ?_
                   refine v_bi (v := nI 8) hz dX8_layPay_92 (by decide) ?_
                   refine v_iload_n hz dX8_layPay_94 rfl ?_
                   first | with_reducible refine v_imulN hz dX8_layPay_95 ?_ | refine v_imul hz dX8_layPay_95 ?_
                   refine v_iload hz dX8_layPay_96 rfl ?_
                   first | with_reducible refine v_iaddN hz dX8_layPay_98 ?_ | refine v_iadd hz dX8_layPay_98 ?_
                   have li := (g1.2.2.2 i (by omega)).1.2.1
                   have lj := (g2.2.2.2 q (by omega)).1.2.1
                   refine v_callVi hz lX8_147 (cX8_bothCost_ok _ _ _ _ _ _ A hm w (8 * s1 + i) (8 * s2 + q) _ _ _ _ _ _ gw (g1.2.2.2 i (by omega)).1 (g2.2.2.2 q (by omega)).1 (g1.2.2.2 i (by omega)).2 (g2.2.2.2 q (by omega)).2) (by assumption) rfl rfl (Nat.le_of_ble_eq_true rfl) (by decide) ⟨Nat.zero_le _, Nat.zero_le _⟩ dX8_layPay_99 (fun r I1 h99 => ?_)
                   obtain ⟨rfl, hF⟩ := h99
                   refine v_iastN hz (by assumption) (by assumption) (by omega) (by decide) dX8_layPay_102 ?_
                   refine v_gen (fun I2 hI2 => ?_)
                   have a7 : I1 (A 147) = I (A 147) := hm.fm hF 17 (by decide) (by decide)
                   have hB : payB I2 A w S T i q := by rw [hI2]; exact (hB.keep a7).put hT (by omega) rfl
                   have n6 : I2 (A 146) = I (A 146) := by rw [hI2, u2_ne (hm.ne 16 17 (by decide) (by decide) (by decide))]; exact hm.fm hF 16 (by decide) (by decide)
                   have hP : payP I2 A w S T i (q + 1) := hP.keep n6
                   have hC : Fm [145, 146, 147] A I0 I2 := by rw [hI2]; exact (hC.tr hF (fun _ h => h) (by decide)).put (by decide)
                   have e4 : I2 (A 134) = I0 (A 134) := hm.fm hC 4 (by decide) (by decide)
                   have e6 : I2 (A 136) = I0 (A 136) := hm.fm hC 6 (by decide) (by decide)
                   have e7 : I2 (A 137) = I0 (A 137) := hm.fm hC 7 (by decide) (by decide)
                   have e8 : I2 (A 138) = I0 (A 138) := hm.fm hC 8 (by decide) (by decide)
                   have g1 : msg I2 A s1 S := h1.keep e4 e6 e7 e8
                   have g2 : msg I2 A s2 T := h2.keep e4 e6 e7 e8
                   have gw : I2 (A 130) 9 = nI w := by rw [hm.fm hC 0 (by decide) (by decide)]; exact hw.1
                   have m1 := g1.2.2.1
                   have m2 := g2.2.2.1
                   have bl := bcn_le (N := 1048576) (S := S) (T := T) (i := i) (j := q) (by decide) li lj hw2
                   refine v_iload hz dX8_layPay_103 rfl ?_
                   refine v_aload_n hz dX8_layPay_105 rfl ?_
                   refine v_getR hz fX8_41 (by assumption) (by assumption) dX8_layPay_106 ?_
                   refine v_bi (v := nI 8) hz dX8_layPay_109 (by decide) ?_
                   refine v_iload_n hz dX8_layPay_111 rfl ?_
                   first | with_reducible refine v_imulN hz dX8_layPay_112 ?_ | refine v_imul hz dX8_layPay_112 ?_
                   refine v_iload hz dX8_layPay_113 rfl ?_
                   first | with_reducible refine v_iaddN hz dX8_layPay_115 ?_ | refine v_iadd hz dX8_layPay_115 ?_
                   refine v_ialdN hz (by assumption) (by assumption) (by omega) (by decide) dX8_layPay_116 ?_
                   refine v_top (y := nI (bcn 1048576 w S T i q)) (hB i q (by omega) (by omega) (by omega)) ?_
                   refine v_aload_n hz dX8_layPay_117 rfl ?_
                   refine v_getR hz fX8_38 (by assumption) (by assumption) dX8_layPay_118 ?_
                   refine v_bi (v := nI 9) hz dX8_layPay_121 (by decide) ?_
                   refine v_iload_n hz dX8_layPay_123 rfl ?_
                   refine v_ic (v := nI 1) hz dX8_layPay_124 (by decide) ?_
                   first | with_reducible refine v_iaddN hz dX8_layPay_125 ?_ | refine v_iadd hz dX8_layPay_125 ?_
                   first | with_reducible refine v_imulN hz dX8_layPay_126 ?_ | refine v_imul hz dX8_layPay_126 ?_
                   refine v_iload hz dX8_layPay_127 rfl ?_
                   first | with_reducible refine v_iaddN hz dX8_layPay_129 ?_ | refine v_iadd hz dX8_layPay_129 ?_
                   refine v_ic (v := nI 1) hz dX8_layPay_130 (by decide) ?_
                   first | with_reducible refine v_iaddN hz dX8_layPay_131 ?_ | refine v_iadd hz dX8_layPay_131 ?_
                   refine v_ialdN hz (by assumption) (by assumption) (by omega) (by decide) dX8_layPay_132 ?_
                   refine v_top (y := nI (pay w S T (i + 1) (q + 1))) (hP (i + 1) (q + 1) (by omega) (by omega) (by omega)) ?_
                   have b3 := pay_le hw2 hS hT (i + 1) (q + 1)
                   first | with_reducible refine v_iaddN hz dX8_layPay_133 ?_ | refine v_iadd hz dX8_layPay_133 ?_
                   refine v_callSi hz lX8_133 (cX8_least_ok _ _ _ _ _ _ _ _) rfl rfl (Nat.le_of_ble_eq_true rfl) (by decide) ⟨Nat.zero_le _, Nat.zero_le _⟩ dX8_layPay_134 (fun r I1 h134 => ?_)
                   obtain ⟨rfl, rfl⟩ := h134
                   refine v_top (nI_min (by omega) (by omega)) ?_
                   refine v_istore hz dX8_layPay_137 (by decide) rfl ?_
                   refine v_iload_n hz dX8_layPay_139 rfl ?_
                   refine v_aload_n hz dX8_layPay_140 rfl ?_
                   refine v_getR hz fX8_13 (by assumption) (by assumption) dX8_layPay_141 ?_
                   refine v_iload_n hz dX8_layPay_144 rfl ?_
                   refine v_ialdN hz (by assumption) (by assumption) (by omega) (by decide) dX8_layPay_145 ?_
                   refine v_top m1 ?_
                   first | with_reducible refine v_icmp_geN hz 182 (by omega) (by omega) dX8_layPay_146 (by decide) (fun c146 => ?_) (fun c146 => ?_) | refine v_icmp_ge hz 182 dX8_layPay_146 (by decide) (fun c146 => ?_) (fun c146 => ?_)
                   · first
                     | (exfalso; omega)
                     | (refine v_iload hz dX8_layPay_182 rfl ?_
                        refine v_istore hz dX8_layPay_184 (by decide) rfl ?_
                        refine v_iload hz dX8_layPay_186 rfl ?_
                        refine v_aload_n hz dX8_layPay_188 rfl ?_
                        refine v_getR hz fX8_13 (by assumption) (by assumption) dX8_layPay_189 ?_
                        refine v_iload_n hz dX8_layPay_192 rfl ?_
                        refine v_ialdN hz (by assumption) (by assumption) (by omega) (by decide) dX8_layPay_193 ?_
                        refine v_top m2 ?_
                        first | with_reducible refine v_icmp_geN hz 231 (by omega) (by omega) dX8_layPay_194 (by decide) (fun c194 => ?_) (fun c194 => ?_) | refine v_icmp_ge hz 231 dX8_layPay_194 (by decide) (fun c194 => ?_) (fun c194 => ?_)
                        · first
                          | (exfalso; omega)
                          | (refine v_iload hz dX8_layPay_231 rfl ?_
                             refine v_istore hz dX8_layPay_233 (by decide) rfl ?_
                             refine v_aload_n hz dX8_layPay_235 rfl ?_
                             refine v_getR hz fX8_38 (by assumption) (by assumption) dX8_layPay_236 ?_
                             refine v_bi (v := nI 9) hz dX8_layPay_239 (by decide) ?_
                             refine v_iload_n hz dX8_layPay_241 rfl ?_
                             first | with_reducible refine v_imulN hz dX8_layPay_242 ?_ | refine v_imul hz dX8_layPay_242 ?_
                             refine v_iload hz dX8_layPay_243 rfl ?_
                             first | with_reducible refine v_iaddN hz dX8_layPay_245 ?_ | refine v_iadd hz dX8_layPay_245 ?_
                             refine v_iload hz dX8_layPay_246 rfl ?_
                             refine v_iastN hz (by assumption) (by assumption) (by omega) (by decide) dX8_layPay_248 ?_
                             refine v_iincE hz dX8_layPay_249 rfl (ip_dec q) (by decide) rfl ?_
                             refine v_goto hz 19 dX8_layPay_252 (by decide) ?_
                             exact v_sub (ih _ (by omega) (hC.put (by decide)) (hP.put hT (by omega) (by first | exact pv_nm (by omega) (by omega) | exact pv_nj hw2 hS hT (by omega) (by omega) | exact pv_im hw2 hS hT (by omega) (by omega) | exact pv_ij hw2 hS hT (by omega) (by omega) li lj)) (by first | exact hB.keep (u2_ne (hm.ne 17 16 (by decide) (by decide) (by decide))) | exact (hB.skip (by omega)).keep (u2_ne (hm.ne 17 16 (by decide) (by decide) (by decide))))) ⟨rfl, rfl, rfl, rfl, rfl, trivial⟩)
                        · first
                          | (exfalso; omega)
                          | (refine v_iload hz dX8_layPay_197 rfl ?_
                             refine v_aload_n hz dX8_layPay_199 rfl ?_
                             refine v_bi (v := nI 8) hz dX8_layPay_200 (by decide) ?_
                             refine v_iload_n hz dX8_layPay_202 rfl ?_
                             first | with_reducible refine v_imulN hz dX8_layPay_203 ?_ | refine v_imul hz dX8_layPay_203 ?_
                             refine v_iload hz dX8_layPay_204 rfl ?_
                             first | with_reducible refine v_iaddN hz dX8_layPay_206 ?_ | refine v_iadd hz dX8_layPay_206 ?_
                             refine v_callVi hz lX8_150 (cX8_costOf_ok _ _ _ _ _ _ A hm (8 * s2 + q) _ w (by omega) (g2.2.2.2 q (by omega)).1.2.1 (g2.2.2.2 q (by omega)).1.2.2.1 gw) (by assumption) rfl rfl (Nat.le_of_ble_eq_true rfl) (by decide) ⟨Nat.zero_le _, Nat.zero_le _⟩ dX8_layPay_207 (fun r I1 h207 => ?_)
                             obtain ⟨rfl, rfl⟩ := h207
                             have b6 := cst_le (L := T.2.1 q) hw2
                             refine v_aload_n hz dX8_layPay_210 rfl ?_
                             refine v_getR hz fX8_38 (by assumption) (by assumption) dX8_layPay_211 ?_
                             refine v_bi (v := nI 9) hz dX8_layPay_214 (by decide) ?_
                             refine v_iload_n hz dX8_layPay_216 rfl ?_
                             first | with_reducible refine v_imulN hz dX8_layPay_217 ?_ | refine v_imul hz dX8_layPay_217 ?_
                             refine v_iload hz dX8_layPay_218 rfl ?_
                             first | with_reducible refine v_iaddN hz dX8_layPay_220 ?_ | refine v_iadd hz dX8_layPay_220 ?_
                             refine v_ic (v := nI 1) hz dX8_layPay_221 (by decide) ?_
                             first | with_reducible refine v_iaddN hz dX8_layPay_222 ?_ | refine v_iadd hz dX8_layPay_222 ?_
                             refine v_ialdN hz (by assumption) (by assumption) (by omega) (by decide) dX8_layPay_223 ?_
                             refine v_top (y := nI (pay w S T i (q + 1))) (hP i (q + 1) (by omega) (by omega) (by omega)) ?_
                             have b7 := pay_le hw2 hS hT i (q + 1)
                             first | with_reducible refine v_iaddN hz dX8_layPay_224 ?_ | refine v_iadd hz dX8_layPay_224 ?_
                             refine v_callSi hz lX8_133 (cX8_least_ok _ _ _ _ _ _ _ _) rfl rfl (Nat.le_of_ble_eq_true rfl) (by decide) ⟨Nat.zero_le _, Nat.zero_le _⟩ dX8_layPay_225 (fun r I1 h225 => ?_)
                             obtain ⟨rfl, rfl⟩ := h225
                             refine v_top (nI_min (by omega) (by omega)) ?_
                             refine v_goto hz 233 dX8_layPay_228 (by decide) ?_
                             refine v_istore hz dX8_layPay_233 (by decide) rfl ?_
                             refine v_aload_n hz dX8_layPay_235 rfl ?_
                             refine v_getR hz fX8_38 (by assumption) (by assumption) dX8_layPay_236 ?_
                             refine v_bi (v := nI 9) hz dX8_layPay_239 (by decide) ?_
                             refine v_iload_n hz dX8_layPay_241 rfl ?_
                             first | with_reducible refine v_imulN hz dX8_layPay_242 ?_ | refine v_imul hz dX8_layPay_242 ?_
                             refine v_iload hz dX8_layPay_243 rfl ?_
                             first | with_reducible refine v_iaddN hz dX8_layPay_245 ?_ | refine v_iadd hz dX8_layPay_245 ?_
                             refine v_iload hz dX8_layPay_246 rfl ?_
                             refine v_iastN hz (by assumption) (by assumption) (by omega) (by decide) dX8_layPay_248 ?_
                             refine v_iincE hz dX8_layPay_249 rfl (ip_dec q) (by decide) rfl ?_
                             refine v_goto hz 19 dX8_layPay_252 (by decide) ?_
                             exact v_sub (ih _ (by omega) (hC.put (by decide)) (hP.put hT (by omega) (by first | exact pv_nm (by omega) (by omega) | exact pv_nj hw2 hS hT (by omega) (by omega) | exact pv_im hw2 hS hT (by omega) (by omega) | exact pv_ij hw2 hS hT (by omega) (by omega) li lj)) (by first | exact hB.keep (u2_ne (hm.ne 17 16 (by decide) (by decide) (by decide))) | exact (hB.skip (by omega)).keep (u2_ne (hm.ne 17 16 (by decide) (by decide) (by decide))))) ⟨rfl, rfl, rfl, rfl, rfl, trivial⟩))
                   · first
                     | (exfalso; omega)
                     | (refine v_iload hz dX8_layPay_149 rfl ?_
                        refine v_aload_n hz dX8_layPay_151 rfl ?_
                        refine v_bi (v := nI 8) hz dX8_layPay_152 (by decide) ?_
                        refine v_iload_n hz dX8_layPay_154 rfl ?_
                        first | with_reducible refine v_imulN hz dX8_layPay_155 ?_ | refine v_imul hz dX8_layPay_155 ?_
                        refine v_iload_n hz dX8_layPay_156 rfl ?_
                        first | with_reducible refine v_iaddN hz dX8_layPay_157 ?_ | refine v_iadd hz dX8_layPay_157 ?_
                        refine v_callVi hz lX8_150 (cX8_costOf_ok _ _ _ _ _ _ A hm (8 * s1 + i) _ w (by omega) (g1.2.2.2 i (by omega)).1.2.1 (g1.2.2.2 i (by omega)).1.2.2.1 gw) (by assumption) rfl rfl (Nat.le_of_ble_eq_true rfl) (by decide) ⟨Nat.zero_le _, Nat.zero_le _⟩ dX8_layPay_158 (fun r I1 h158 => ?_)
                        obtain ⟨rfl, rfl⟩ := h158
                        have b4 := cst_le (L := S.2.1 i) hw2
                        refine v_aload_n hz dX8_layPay_161 rfl ?_
                        refine v_getR hz fX8_38 (by assumption) (by assumption) dX8_layPay_162 ?_
                        refine v_bi (v := nI 9) hz dX8_layPay_165 (by decide) ?_
                        refine v_iload_n hz dX8_layPay_167 rfl ?_
                        refine v_ic (v := nI 1) hz dX8_layPay_168 (by decide) ?_
                        first | with_reducible refine v_iaddN hz dX8_layPay_169 ?_ | refine v_iadd hz dX8_layPay_169 ?_
                        first | with_reducible refine v_imulN hz dX8_layPay_170 ?_ | refine v_imul hz dX8_layPay_170 ?_
                        refine v_iload hz dX8_layPay_171 rfl ?_
                        first | with_reducible refine v_iaddN hz dX8_layPay_173 ?_ | refine v_iadd hz dX8_layPay_173 ?_
                        refine v_ialdN hz (by assumption) (by assumption) (by omega) (by decide) dX8_layPay_174 ?_
                        refine v_top (y := nI (pay w S T (i + 1) q)) (hP (i + 1) q (by omega) (by omega) (by omega)) ?_
                        have b5 := pay_le hw2 hS hT (i + 1) q
                        first | with_reducible refine v_iaddN hz dX8_layPay_175 ?_ | refine v_iadd hz dX8_layPay_175 ?_
                        refine v_callSi hz lX8_133 (cX8_least_ok _ _ _ _ _ _ _ _) rfl rfl (Nat.le_of_ble_eq_true rfl) (by decide) ⟨Nat.zero_le _, Nat.zero_le _⟩ dX8_layPay_176 (fun r I1 h176 => ?_)
                        obtain ⟨rfl, rfl⟩ := h176
                        refine v_top (nI_min (by omega) (by omega)) ?_
                        refine v_goto hz 184 dX8_layPay_179 (by decide) ?_
                        refine v_istore hz dX8_layPay_184 (by decide) rfl ?_
                        refine v_iload hz dX8_layPay_186 rfl ?_
                        refine v_aload_n hz dX8_layPay_188 rfl ?_
                        refine v_getR hz fX8_13 (by assumption) (by assumption) dX8_layPay_189 ?_
                        refine v_iload_n hz dX8_layPay_192 rfl ?_
                        refine v_ialdN hz (by assumption) (by assumption) (by omega) (by decide) dX8_layPay_193 ?_
                        refine v_top m2 ?_
                        first | with_reducible refine v_icmp_geN hz 231 (by omega) (by omega) dX8_layPay_194 (by decide) (fun c194 => ?_) (fun c194 => ?_) | refine v_icmp_ge hz 231 dX8_layPay_194 (by decide) (fun c194 => ?_) (fun c194 => ?_)
                        · first
                          | (exfalso; omega)
                          | (refine v_iload hz dX8_layPay_231 rfl ?_
                             refine v_istore hz dX8_layPay_233 (by decide) rfl ?_
                             refine v_aload_n hz dX8_layPay_235 rfl ?_
                             refine v_getR hz fX8_38 (by assumption) (by assumption) dX8_layPay_236 ?_
                             refine v_bi (v := nI 9) hz dX8_layPay_239 (by decide) ?_
                             refine v_iload_n hz dX8_layPay_241 rfl ?_
                             first | with_reducible refine v_imulN hz dX8_layPay_242 ?_ | refine v_imul hz dX8_layPay_242 ?_
                             refine v_iload hz dX8_layPay_243 rfl ?_
                             first | with_reducible refine v_iaddN hz dX8_layPay_245 ?_ | refine v_iadd hz dX8_layPay_245 ?_
                             refine v_iload hz dX8_layPay_246 rfl ?_
                             refine v_iastN hz (by assumption) (by assumption) (by omega) (by decide) dX8_layPay_248 ?_
                             refine v_iincE hz dX8_layPay_249 rfl (ip_dec q) (by decide) rfl ?_
                             refine v_goto hz 19 dX8_layPay_252 (by decide) ?_
                             exact v_sub (ih _ (by omega) (hC.put (by decide)) (hP.put hT (by omega) (by first | exact pv_nm (by omega) (by omega) | exact pv_nj hw2 hS hT (by omega) (by omega) | exact pv_im hw2 hS hT (by omega) (by omega) | exact pv_ij hw2 hS hT (by omega) (by omega) li lj)) (by first | exact hB.keep (u2_ne (hm.ne 17 16 (by decide) (by decide) (by decide))) | exact (hB.skip (by omega)).keep (u2_ne (hm.ne 17 16 (by decide) (by decide) (by decide))))) ⟨rfl, rfl, rfl, rfl, rfl, trivial⟩)
                        · first
                          | (exfalso; omega)
                          | (refine v_iload hz dX8_layPay_197 rfl ?_
                             refine v_aload_n hz dX8_layPay_199 rfl ?_
                             refine v_bi (v := nI 8) hz dX8_layPay_200 (by decide) ?_
                             refine v_iload_n hz dX8_layPay_202 rfl ?_
                             first | with_reducible refine v_imulN hz dX8_layPay_203 ?_ | refine v_imul hz dX8_layPay_203 ?_
                             refine v_iload hz dX8_layPay_204 rfl ?_
                             first | with_reducible refine v_iaddN hz dX8_layPay_206 ?_ | refine v_iadd hz dX8_layPay_206 ?_
                             refine v_callVi hz lX8_150 (cX8_costOf_ok _ _ _ _ _ _ A hm (8 * s2 + q) _ w (by omega) (g2.2.2.2 q (by omega)).1.2.1 (g2.2.2.2 q (by omega)).1.2.2.1 gw) (by assumption) rfl rfl (Nat.le_of_ble_eq_true rfl) (by decide) ⟨Nat.zero_le _, Nat.zero_le _⟩ dX8_layPay_207 (fun r I1 h207 => ?_)
                             obtain ⟨rfl, rfl⟩ := h207
                             have b6 := cst_le (L := T.2.1 q) hw2
                             refine v_aload_n hz dX8_layPay_210 rfl ?_
                             refine v_getR hz fX8_38 (by assumption) (by assumption) dX8_layPay_211 ?_
                             refine v_bi (v := nI 9) hz dX8_layPay_214 (by decide) ?_
                             refine v_iload_n hz dX8_layPay_216 rfl ?_
                             first | with_reducible refine v_imulN hz dX8_layPay_217 ?_ | refine v_imul hz dX8_layPay_217 ?_
                             refine v_iload hz dX8_layPay_218 rfl ?_
                             first | with_reducible refine v_iaddN hz dX8_layPay_220 ?_ | refine v_iadd hz dX8_layPay_220 ?_
                             refine v_ic (v := nI 1) hz dX8_layPay_221 (by decide) ?_
                             first | with_reducible refine v_iaddN hz dX8_layPay_222 ?_ | refine v_iadd hz dX8_layPay_222 ?_
                             refine v_ialdN hz (by assumption) (by assumption) (by omega) (by decide) dX8_layPay_223 ?_
                             refine v_top (y := nI (pay w S T i (q + 1))) (hP i (q + 1) (by omega) (by omega) (by omega)) ?_
                             have b7 := pay_le hw2 hS hT i (q + 1)
                             first | with_reducible refine v_iaddN hz dX8_layPay_224 ?_ | refine v_iadd hz dX8_layPay_224 ?_
                             refine v_callSi hz lX8_133 (cX8_least_ok _ _ _ _ _ _ _ _) rfl rfl (Nat.le_of_ble_eq_true rfl) (by decide) ⟨Nat.zero_le _, Nat.zero_le _⟩ dX8_layPay_225 (fun r I1 h225 => ?_)
                             obtain ⟨rfl, rfl⟩ := h225
                             refine v_top (nI_min (by omega) (by omega)) ?_
                             refine v_goto hz 233 dX8_layPay_228 (by decide) ?_
                             refine v_istore hz dX8_layPay_233 (by decide) rfl ?_
                             refine v_aload_n hz dX8_layPay_235 rfl ?_
                             refine v_getR hz fX8_38 (by assumption) (by assumption) dX8_layPay_236 ?_
                             refine v_bi (v := nI 9) hz dX8_layPay_239 (by decide) ?_
                             refine v_iload_n hz dX8_layPay_241 rfl ?_
                             first | with_reducible refine v_imulN hz dX8_layPay_242 ?_ | refine v_imul hz dX8_layPay_242 ?_
                             refine v_iload hz dX8_layPay_243 rfl ?_
                             first | with_reducible refine v_iaddN hz dX8_layPay_245 ?_ | refine v_iadd hz dX8_layPay_245 ?_
                             refine v_iload hz dX8_layPay_246 rfl ?_
                             refine v_iastN hz (by assumption) (by assumption) (by omega) (by decide) dX8_layPay_248 ?_
                             refine v_iincE hz dX8_layPay_249 rfl (ip_dec q) (by decide) rfl ?_
                             refine v_goto hz 19 dX8_layPay_252 (by decide) ?_
                             exact v_sub (ih _ (by omega) (hC.put (by decide)) (hP.put hT (by omega) (by first | exact pv_nm (by omega) (by omega) | exact pv_nj hw2 hS hT (by omega) (by omega) | exact pv_im hw2 hS hT (by omega) (by omega) | exact pv_ij hw2 hS hT (by omega) (by omega) li lj)) (by first | exact hB.keep (u2_ne (hm.ne 17 16 (by decide) (by decide) (by decide))) | exact (hB.skip (by omega)).keep (u2_ne (hm.ne 17 16 (by decide) (by decide) (by decide))))) ⟨rfl, rfl, rfl, rfl, rfl, trivial⟩)))))
    · first
      | (exfalso; omega)
      | (refine v_iload hz dX8_layPay_34 rfl ?_
         refine v_aload_n hz dX8_layPay_36 rfl ?_
         refine v_getR hz fX8_13 (by assumption) (by assumption) dX8_layPay_37 ?_
         refine v_iload_n hz dX8_layPay_40 rfl ?_
         refine v_ialdN hz (by assumption) (by assumption) (by omega) (by decide) dX8_layPay_41 ?_
         refine v_top m2 ?_
         first | with_reducible refine v_icmp_neN hz 49 (by omega) (by omega) dX8_layPay_42 (by decide) (fun c42 => ?_) (fun c42 => ?_) | refine v_icmp_ne hz 49 dX8_layPay_42 (by decide) (fun c42 => ?_) (fun c42 => ?_)
         · first
           | (exfalso; omega)
           | (refine v_ldc (v := 1048576) hz (tg_mem 936 (by decide +kernel) rfl) dX8_layPay_49 ?_
              refine v_top (y := nI 1048576) rfl ?_
              refine v_istore hz dX8_layPay_51 (by decide) rfl ?_
              refine v_iload_n hz dX8_layPay_53 rfl ?_
              refine v_aload_n hz dX8_layPay_54 rfl ?_
              refine v_getR hz fX8_13 (by assumption) (by assumption) dX8_layPay_55 ?_
              refine v_iload_n hz dX8_layPay_58 rfl ?_
              refine v_ialdN hz (by assumption) (by assumption) (by omega) (by decide) dX8_layPay_59 ?_
              refine v_top m1 ?_
              first | with_reducible refine v_icmp_geN hz 139 (by omega) (by omega) dX8_layPay_60 (by decide) (fun c60 => ?_) (fun c60 => ?_) | refine v_icmp_ge hz 139 dX8_layPay_60 (by decide) (fun c60 => ?_) (fun c60 => ?_)
              · first
                | (exfalso; omega)
                | (refine v_iload_n hz dX8_layPay_139 rfl ?_
                   refine v_aload_n hz dX8_layPay_140 rfl ?_
                   refine v_getR hz fX8_13 (by assumption) (by assumption) dX8_layPay_141 ?_
                   refine v_iload_n hz dX8_layPay_144 rfl ?_
                   refine v_ialdN hz (by assumption) (by assumption) (by omega) (by decide) dX8_layPay_145 ?_
                   refine v_top m1 ?_
                   first | with_reducible refine v_icmp_geN hz 182 (by omega) (by omega) dX8_layPay_146 (by decide) (fun c146 => ?_) (fun c146 => ?_) | refine v_icmp_ge hz 182 dX8_layPay_146 (by decide) (fun c146 => ?_) (fun c146 => ?_)
                   · first
                     | (exfalso; omega)
                     | (refine v_iload hz dX8_layPay_182 rfl ?_
                        refine v_istore hz dX8_layPay_184 (by decide) rfl ?_
                        refine v_iload hz dX8_layPay_186 rfl ?_
                        refine v_aload_n hz dX8_layPay_188 rfl ?_
                        refine v_getR hz fX8_13 (by assumption) (by assumption) dX8_layPay_189 ?_
                        refine v_iload_n hz dX8_layPay_192 rfl ?_
                        refine v_ialdN hz (by assumption) (by assumption) (by omega) (by decide) dX8_layPay_193 ?_
                        refine v_top m2 ?_
                        first | with_reducible refine v_icmp_geN hz 231 (by omega) (by omega) dX8_layPay_194 (by decide) (fun c194 => ?_) (fun c194 => ?_) | refine v_icmp_ge hz 231 dX8_layPay_194 (by decide) (fun c194 => ?_) (fun c194 => ?_)
                        · first
                          | (exfalso; omega)
                          | (refine v_iload hz dX8_layPay_231 rfl ?_
                             refine v_istore hz dX8_layPay_233 (by decide) rfl ?_
                             refine v_aload_n hz dX8_layPay_235 rfl ?_
                             refine v_getR hz fX8_38 (by assumption) (by assumption) dX8_layPay_236 ?_
                             refine v_bi (v := nI 9) hz dX8_layPay_239 (by decide) ?_
                             refine v_iload_n hz dX8_layPay_241 rfl ?_
                             first | with_reducible refine v_imulN hz dX8_layPay_242 ?_ | refine v_imul hz dX8_layPay_242 ?_
                             refine v_iload hz dX8_layPay_243 rfl ?_
                             first | with_reducible refine v_iaddN hz dX8_layPay_245 ?_ | refine v_iadd hz dX8_layPay_245 ?_
                             refine v_iload hz dX8_layPay_246 rfl ?_
                             refine v_iastN hz (by assumption) (by assumption) (by omega) (by decide) dX8_layPay_248 ?_
                             refine v_iincE hz dX8_layPay_249 rfl (ip_dec q) (by decide) rfl ?_
                             refine v_goto hz 19 dX8_layPay_252 (by decide) ?_
                             exact v_sub (ih _ (by omega) (hC.put (by decide)) (hP.put hT (by omega) (by first | exact pv_nm (by omega) (by omega) | exact pv_nj hw2 hS hT (by omega) (by omega) | exact pv_im hw2 hS hT (by omega) (by omega) | exact pv_ij hw2 hS hT (by omega) (by omega) li lj)) (by first | exact hB.keep (u2_ne (hm.ne 17 16 (by decide) (by decide) (by decide))) | exact (hB.skip (by omega)).keep (u2_ne (hm.ne 17 16 (by decide) (by decide) (by decide))))) ⟨rfl, rfl, rfl, rfl, rfl, trivial⟩)
                        · first
                          | (exfalso; omega)
                          | (refine v_iload hz dX8_layPay_197 rfl ?_
                             refine v_aload_n hz dX8_layPay_199 rfl ?_
                             refine v_bi (v := nI 8) hz dX8_layPay_200 (by decide) ?_
                             refine v_iload_n hz dX8_layPay_202 rfl ?_
                             first | with_reducible refine v_imulN hz dX8_layPay_203 ?_ | refine v_imul hz dX8_layPay_203 ?_
                             refine v_iload hz dX8_layPay_204 rfl ?_
                             first | with_reducible refine v_iaddN hz dX8_layPay_206 ?_ | refine v_iadd hz dX8_layPay_206 ?_
                             refine v_callVi hz lX8_150 (cX8_costOf_ok _ _ _ _ _ _ A hm (8 * s2 + q) _ w (by omega) (g2.2.2.2 q (by omega)).1.2.1 (g2.2.2.2 q (by omega)).1.2.2.1 gw) (by assumption) rfl rfl (Nat.le_of_ble_eq_true rfl) (by decide) ⟨Nat.zero_le _, Nat.zero_le _⟩ dX8_layPay_207 (fun r I1 h207 => ?_)
                             obtain ⟨rfl, rfl⟩ := h207
                             have b6 := cst_le (L := T.2.1 q) hw2
                             refine v_aload_n hz dX8_layPay_210 rfl ?_
                             refine v_getR hz fX8_38 (by assumption) (by assumption) dX8_layPay_211 ?_
                             refine v_bi (v := nI 9) hz dX8_layPay_214 (by decide) ?_
                             refine v_iload_n hz dX8_layPay_216 rfl ?_
                             first | with_reducible refine v_imulN hz dX8_layPay_217 ?_ | refine v_imul hz dX8_layPay_217 ?_
                             refine v_iload hz dX8_layPay_218 rfl ?_
                             first | with_reducible refine v_iaddN hz dX8_layPay_220 ?_ | refine v_iadd hz dX8_layPay_220 ?_
                             refine v_ic (v := nI 1) hz dX8_layPay_221 (by decide) ?_
                             first | with_reducible refine v_iaddN hz dX8_layPay_222 ?_ | refine v_iadd hz dX8_layPay_222 ?_
                             refine v_ialdN hz (by assumption) (by assumption) (by omega) (by decide) dX8_layPay_223 ?_
                             refine v_top (y := nI (pay w S T i (q + 1))) (hP i (q + 1) (by omega) (by omega) (by omega)) ?_
                             have b7 := pay_le hw2 hS hT i (q + 1)
                             first | with_reducible refine v_iaddN hz dX8_layPay_224 ?_ | refine v_iadd hz dX8_layPay_224 ?_
                             refine v_callSi hz lX8_133 (cX8_least_ok _ _ _ _ _ _ _ _) rfl rfl (Nat.le_of_ble_eq_true rfl) (by decide) ⟨Nat.zero_le _, Nat.zero_le _⟩ dX8_layPay_225 (fun r I1 h225 => ?_)
                             obtain ⟨rfl, rfl⟩ := h225
                             refine v_top (nI_min (by omega) (by omega)) ?_
                             refine v_goto hz 233 dX8_layPay_228 (by decide) ?_
                             refine v_istore hz dX8_layPay_233 (by decide) rfl ?_
                             refine v_aload_n hz dX8_layPay_235 rfl ?_
                             refine v_getR hz fX8_38 (by assumption) (by assumption) dX8_layPay_236 ?_
                             refine v_bi (v := nI 9) hz dX8_layPay_239 (by decide) ?_
                             refine v_iload_n hz dX8_layPay_241 rfl ?_
                             first | with_reducible refine v_imulN hz dX8_layPay_242 ?_ | refine v_imul hz dX8_layPay_242 ?_
                             refine v_iload hz dX8_layPay_243 rfl ?_
                             first | with_reducible refine v_iaddN hz dX8_layPay_245 ?_ | refine v_iadd hz dX8_layPay_245 ?_
                             refine v_iload hz dX8_layPay_246 rfl ?_
                             refine v_iastN hz (by assumption) (by assumption) (by omega) (by decide) dX8_layPay_248 ?_
                             refine v_iincE hz dX8_layPay_249 rfl (ip_dec q) (by decide) rfl ?_
                             refine v_goto hz 19 dX8_layPay_252 (by decide) ?_
                             exact v_sub (ih _ (by omega) (hC.put (by decide)) (hP.put hT (by omega) (by first | exact pv_nm (by omega) (by omega) | exact pv_nj hw2 hS hT (by omega) (by omega) | exact pv_im hw2 hS hT (by omega) (by omega) | exact pv_ij hw2 hS hT (by omega) (by omega) li lj)) (by first | exact hB.keep (u2_ne (hm.ne 17 16 (by decide) (by decide) (by decide))) | exact (hB.skip (by omega)).keep (u2_ne (hm.ne 17 16 (by decide) (by decide) (by decide))))) ⟨rfl, rfl, rfl, rfl, rfl, trivial⟩))
                   · first
                     | (exfalso; omega)
                     | (refine v_iload hz dX8_layPay_149 rfl ?_
                        refine v_aload_n hz dX8_layPay_151 rfl ?_
                        refine v_bi (v := nI 8) hz dX8_layPay_152 (by decide) ?_
                        refine v_iload_n hz dX8_layPay_154 rfl ?_
                        first | with_reducible refine v_imulN hz dX8_layPay_155 ?_ | refine v_imul hz dX8_layPay_155 ?_
                        refine v_iload_n hz dX8_layPay_156 rfl ?_
                        first | with_reducible refine v_iaddN hz dX8_layPay_157 ?_ | refine v_iadd hz dX8_layPay_157 ?_
                        refine v_callVi hz lX8_150 (cX8_costOf_ok _ _ _ _ _ _ A hm (8 * s1 + i) _ w (by omega) (g1.2.2.2 i (by omega)).1.2.1 (g1.2.2.2 i (by omega)).1.2.2.1 gw) (by assumption) rfl rfl (Nat.le_of_ble_eq_true rfl) (by decide) ⟨Nat.zero_le _, Nat.zero_le _⟩ dX8_layPay_158 (fun r I1 h158 => ?_)
                        obtain ⟨rfl, rfl⟩ := h158
                        have b4 := cst_le (L := S.2.1 i) hw2
                        refine v_aload_n hz dX8_layPay_161 rfl ?_
                        refine v_getR hz fX8_38 (by assumption) (by assumption) dX8_layPay_162 ?_
                        refine v_bi (v := nI 9) hz dX8_layPay_165 (by decide) ?_
                        refine v_iload_n hz dX8_layPay_167 rfl ?_
                        refine v_ic (v := nI 1) hz dX8_layPay_168 (by decide) ?_
                        first | with_reducible refine v_iaddN hz dX8_layPay_169 ?_ | refine v_iadd hz dX8_layPay_169 ?_
                        first | with_reducible refine v_imulN hz dX8_layPay_170 ?_ | refine v_imul hz dX8_layPay_170 ?_
                        refine v_iload hz dX8_layPay_171 rfl ?_
                        first | with_reducible refine v_iaddN hz dX8_layPay_173 ?_ | refine v_iadd hz dX8_layPay_173 ?_
                        refine v_ialdN hz (by assumption) (by assumption) (by omega) (by decide) dX8_layPay_174 ?_
                        refine v_top (y := nI (pay w S T (i + 1) q)) (hP (i + 1) q (by omega) (by omega) (by omega)) ?_
                        have b5 := pay_le hw2 hS hT (i + 1) q
                        first | with_reducible refine v_iaddN hz dX8_layPay_175 ?_ | refine v_iadd hz dX8_layPay_175 ?_
                        refine v_callSi hz lX8_133 (cX8_least_ok _ _ _ _ _ _ _ _) rfl rfl (Nat.le_of_ble_eq_true rfl) (by decide) ⟨Nat.zero_le _, Nat.zero_le _⟩ dX8_layPay_176 (fun r I1 h176 => ?_)
                        obtain ⟨rfl, rfl⟩ := h176
                        refine v_top (nI_min (by omega) (by omega)) ?_
                        refine v_goto hz 184 dX8_layPay_179 (by decide) ?_
                        refine v_istore hz dX8_layPay_184 (by decide) rfl ?_
                        refine v_iload hz dX8_layPay_186 rfl ?_
                        refine v_aload_n hz dX8_layPay_188 rfl ?_
                        refine v_getR hz fX8_13 (by assumption) (by assumption) dX8_layPay_189 ?_
                        refine v_iload_n hz dX8_layPay_192 rfl ?_
                        refine v_ialdN hz (by assumption) (by assumption) (by omega) (by decide) dX8_layPay_193 ?_
                        refine v_top m2 ?_
                        first | with_reducible refine v_icmp_geN hz 231 (by omega) (by omega) dX8_layPay_194 (by decide) (fun c194 => ?_) (fun c194 => ?_) | refine v_icmp_ge hz 231 dX8_layPay_194 (by decide) (fun c194 => ?_) (fun c194 => ?_)
                        · first
                          | (exfalso; omega)
                          | (refine v_iload hz dX8_layPay_231 rfl ?_
                             refine v_istore hz dX8_layPay_233 (by decide) rfl ?_
                             refine v_aload_n hz dX8_layPay_235 rfl ?_
                             refine v_getR hz fX8_38 (by assumption) (by assumption) dX8_layPay_236 ?_
                             refine v_bi (v := nI 9) hz dX8_layPay_239 (by decide) ?_
                             refine v_iload_n hz dX8_layPay_241 rfl ?_
                             first | with_reducible refine v_imulN hz dX8_layPay_242 ?_ | refine v_imul hz dX8_layPay_242 ?_
                             refine v_iload hz dX8_layPay_243 rfl ?_
                             first | with_reducible refine v_iaddN hz dX8_layPay_245 ?_ | refine v_iadd hz dX8_layPay_245 ?_
                             refine v_iload hz dX8_layPay_246 rfl ?_
                             refine v_iastN hz (by assumption) (by assumption) (by omega) (by decide) dX8_layPay_248 ?_
                             refine v_iincE hz dX8_layPay_249 rfl (ip_dec q) (by decide) rfl ?_
                             refine v_goto hz 19 dX8_layPay_252 (by decide) ?_
                             exact v_sub (ih _ (by omega) (hC.put (by decide)) (hP.put hT (by omega) (by first | exact pv_nm (by omega) (by omega) | exact pv_nj hw2 hS hT (by omega) (by omega) | exact pv_im hw2 hS hT (by omega) (by omega) | exact pv_ij hw2 hS hT (by omega) (by omega) li lj)) (by first | exact hB.keep (u2_ne (hm.ne 17 16 (by decide) (by decide) (by decide))) | exact (hB.skip (by omega)).keep (u2_ne (hm.ne 17 16 (by decide) (by decide) (by decide))))) ⟨rfl, rfl, rfl, rfl, rfl, trivial⟩)
                        · first
                          | (exfalso; omega)
                          | (refine v_iload hz dX8_layPay_197 rfl ?_
                             refine v_aload_n hz dX8_layPay_199 rfl ?_
                             refine v_bi (v := nI 8) hz dX8_layPay_200 (by decide) ?_
                             refine v_iload_n hz dX8_layPay_202 rfl ?_
                             first | with_reducible refine v_imulN hz dX8_layPay_203 ?_ | refine v_imul hz dX8_layPay_203 ?_
                             refine v_iload hz dX8_layPay_204 rfl ?_
                             first | with_reducible refine v_iaddN hz dX8_layPay_206 ?_ | refine v_iadd hz dX8_layPay_206 ?_
                             refine v_callVi hz lX8_150 (cX8_costOf_ok _ _ _ _ _ _ A hm (8 * s2 + q) _ w (by omega) (g2.2.2.2 q (by omega)).1.2.1 (g2.2.2.2 q (by omega)).1.2.2.1 gw) (by assumption) rfl rfl (Nat.le_of_ble_eq_true rfl) (by decide) ⟨Nat.zero_le _, Nat.zero_le _⟩ dX8_layPay_207 (fun r I1 h207 => ?_)
                             obtain ⟨rfl, rfl⟩ := h207
                             have b6 := cst_le (L := T.2.1 q) hw2
                             refine v_aload_n hz dX8_layPay_210 rfl ?_
                             refine v_getR hz fX8_38 (by assumption) (by assumption) dX8_layPay_211 ?_
                             refine v_bi (v := nI 9) hz dX8_layPay_214 (by decide) ?_
                             refine v_iload_n hz dX8_layPay_216 rfl ?_
                             first | with_reducible refine v_imulN hz dX8_layPay_217 ?_ | refine v_imul hz dX8_layPay_217 ?_
                             refine v_iload hz dX8_layPay_218 rfl ?_
                             first | with_reducible refine v_iaddN hz dX8_layPay_220 ?_ | refine v_iadd hz dX8_layPay_220 ?_
                             refine v_ic (v := nI 1) hz dX8_layPay_221 (by decide) ?_
                             first | with_reducible refine v_iaddN hz dX8_layPay_222 ?_ | refine v_iadd hz dX8_layPay_222 ?_
                             refine v_ialdN hz (by assumption) (by assumption) (by omega) (by decide) dX8_layPay_223 ?_
                             refine v_top (y := nI (pay w S T i (q + 1))) (hP i (q + 1) (by omega) (by omega) (by omega)) ?_
                             have b7 := pay_le hw2 hS hT i (q + 1)
                             first | with_reducible refine v_iaddN hz dX8_layPay_224 ?_ | refine v_iadd hz dX8_layPay_224 ?_
                             refine v_callSi hz lX8_133 (cX8_least_ok _ _ _ _ _ _ _ _) rfl rfl (Nat.le_of_ble_eq_true rfl) (by decide) ⟨Nat.zero_le _, Nat.zero_le _⟩ dX8_layPay_225 (fun r I1 h225 => ?_)
                             obtain ⟨rfl, rfl⟩ := h225
                             refine v_top (nI_min (by omega) (by omega)) ?_
                             refine v_goto hz 233 dX8_layPay_228 (by decide) ?_
                             refine v_istore hz dX8_layPay_233 (by decide) rfl ?_
                             refine v_aload_n hz dX8_layPay_235 rfl ?_
                             refine v_getR hz fX8_38 (by assumption) (by assumption) dX8_layPay_236 ?_
                             refine v_bi (v := nI 9) hz dX8_layPay_239 (by decide) ?_
                             refine v_iload_n hz dX8_layPay_241 rfl ?_
                             first | with_reducible refine v_imulN hz dX8_layPay_242 ?_ | refine v_imul hz dX8_layPay_242 ?_
                             refine v_iload hz dX8_layPay_243 rfl ?_
                             first | with_reducible refine v_iaddN hz dX8_layPay_245 ?_ | refine v_iadd hz dX8_layPay_245 ?_
                             refine v_iload hz dX8_layPay_246 rfl ?_
                             refine v_iastN hz (by assumption) (by assumption) (by omega) (by decide) dX8_layPay_248 ?_
                             refine v_iincE hz dX8_layPay_249 rfl (ip_dec q) (by decide) rfl ?_
                             refine v_goto hz 19 dX8_layPay_252 (by decide) ?_
                             exact v_sub (ih _ (by omega) (hC.put (by decide)) (hP.put hT (by omega) (by first | exact pv_nm (by omega) (by omega) | exact pv_nj hw2 hS hT (by omega) (by omega) | exact pv_im hw2 hS hT (by omega) (by omega) | exact pv_ij hw2 hS hT (by omega) (by omega) li lj)) (by first | exact hB.keep (u2_ne (hm.ne 17 16 (by decide) (by decide) (by decide))) | exact (hB.skip (by omega)).keep (u2_ne (hm.ne 17 16 (by decide) (by decide) (by decide))))) ⟨rfl, rfl, rfl, rfl, rfl, trivial⟩)))
              · first
                | (exfalso; omega)
                | (refine v_iload hz dX8_layPay_63 rfl ?_
                   refine v_aload_n hz dX8_layPay_65 rfl ?_
                   refine v_getR hz fX8_13 (by assumption) (by assumption) dX8_layPay_66 ?_
                   refine v_iload_n hz dX8_layPay_69 rfl ?_
                   refine v_ialdN hz (by assumption) (by assumption) (by omega) (by decide) dX8_layPay_70 ?_
                   refine v_top m2 ?_
                   first | with_reducible refine v_icmp_geN hz 139 (by omega) (by omega) dX8_layPay_71 (by decide) (fun c71 => ?_) (fun c71 => ?_) | refine v_icmp_ge hz 139 dX8_layPay_71 (by decide) (fun c71 => ?_) (fun c71 => ?_)
                   · first
                     | (exfalso; omega)
                     | (refine v_iload_n hz dX8_layPay_139 rfl ?_
                        refine v_aload_n hz dX8_layPay_140 rfl ?_
                        refine v_getR hz fX8_13 (by assumption) (by assumption) dX8_layPay_141 ?_
                        refine v_iload_n hz dX8_layPay_144 rfl ?_
                        refine v_ialdN hz (by assumption) (by assumption) (by omega) (by decide) dX8_layPay_145 ?_
                        refine v_top m1 ?_
                        first | with_reducible refine v_icmp_geN hz 182 (by omega) (by omega) dX8_layPay_146 (by decide) (fun c146 => ?_) (fun c146 => ?_) | refine v_icmp_ge hz 182 dX8_layPay_146 (by decide) (fun c146 => ?_) (fun c146 => ?_)
                        · first
                          | (exfalso; omega)
                          | (refine v_iload hz dX8_layPay_182 rfl ?_
                             refine v_istore hz dX8_layPay_184 (by decide) rfl ?_
                             refine v_iload hz dX8_layPay_186 rfl ?_
                             refine v_aload_n hz dX8_layPay_188 rfl ?_
                             refine v_getR hz fX8_13 (by assumption) (by assumption) dX8_layPay_189 ?_
                             refine v_iload_n hz dX8_layPay_192 rfl ?_
                             refine v_ialdN hz (by assumption) (by assumption) (by omega) (by decide) dX8_layPay_193 ?_
                             refine v_top m2 ?_
                             first | with_reducible refine v_icmp_geN hz 231 (by omega) (by omega) dX8_layPay_194 (by decide) (fun c194 => ?_) (fun c194 => ?_) | refine v_icmp_ge hz 231 dX8_layPay_194 (by decide) (fun c194 => ?_) (fun c194 => ?_)
                             · first
                               | (exfalso; omega)
                               | (refine v_iload hz dX8_layPay_231 rfl ?_
                                  refine v_istore hz dX8_layPay_233 (by decide) rfl ?_
                                  refine v_aload_n hz dX8_layPay_235 rfl ?_
                                  refine v_getR hz fX8_38 (by assumption) (by assumption) dX8_layPay_236 ?_
                                  refine v_bi (v := nI 9) hz dX8_layPay_239 (by decide) ?_
                                  refine v_iload_n hz dX8_layPay_241 rfl ?_
                                  first | with_reducible refine v_imulN hz dX8_layPay_242 ?_ | refine v_imul hz dX8_layPay_242 ?_
                                  refine v_iload hz dX8_layPay_243 rfl ?_
                                  first | with_reducible refine v_iaddN hz dX8_layPay_245 ?_ | refine v_iadd hz dX8_layPay_245 ?_
                                  refine v_iload hz dX8_layPay_246 rfl ?_
                                  refine v_iastN hz (by assumption) (by assumption) (by omega) (by decide) dX8_layPay_248 ?_
                                  refine v_iincE hz dX8_layPay_249 rfl (ip_dec q) (by decide) rfl ?_
                                  refine v_goto hz 19 dX8_layPay_252 (by decide) ?_
                                  exact v_sub (ih _ (by omega) (hC.put (by decide)) (hP.put hT (by omega) (by first | exact pv_nm (by omega) (by omega) | exact pv_nj hw2 hS hT (by omega) (by omega) | exact pv_im hw2 hS hT (by omega) (by omega) | exact pv_ij hw2 hS hT (by omega) (by omega) li lj)) (by first | exact hB.keep (u2_ne (hm.ne 17 16 (by decide) (by decide) (by decide))) | exact (hB.skip (by omega)).keep (u2_ne (hm.ne 17 16 (by decide) (by decide) (by decide))))) ⟨rfl, rfl, rfl, rfl, rfl, trivial⟩)
                             · first
                               | (exfalso; omega)
                               | (refine v_iload hz dX8_layPay_197 rfl ?_
                                  refine v_aload_n hz dX8_layPay_199 rfl ?_
                                  refine v_bi (v := nI 8) hz dX8_layPay_200 (by decide) ?_
                                  refine v_iload_n hz dX8_layPay_202 rfl ?_
                                  first | with_reducible refine v_imulN hz dX8_layPay_203 ?_ | refine v_imul hz dX8_layPay_203 ?_
                                  refine v_iload hz dX8_layPay_204 rfl ?_
                                  first | with_reducible refine v_iaddN hz dX8_layPay_206 ?_ | refine v_iadd hz dX8_layPay_206 ?_
                                  refine v_callVi hz lX8_150 (cX8_costOf_ok _ _ _ _ _ _ A hm (8 * s2 + q) _ w (by omega) (g2.2.2.2 q (by omega)).1.2.1 (g2.2.2.2 q (by omega)).1.2.2.1 gw) (by assumption) rfl rfl (Nat.le_of_ble_eq_true rfl) (by decide) ⟨Nat.zero_le _, Nat.zero_le _⟩ dX8_layPay_207 (fun r I1 h207 => ?_)
                                  obtain ⟨rfl, rfl⟩ := h207
                                  have b6 := cst_le (L := T.2.1 q) hw2
                                  refine v_aload_n hz dX8_layPay_210 rfl ?_
                                  refine v_getR hz fX8_38 (by assumption) (by assumption) dX8_layPay_211 ?_
                                  refine v_bi (v := nI 9) hz dX8_layPay_214 (by decide) ?_
                                  refine v_iload_n hz dX8_layPay_216 rfl ?_
                                  first | with_reducible refine v_imulN hz dX8_layPay_217 ?_ | refine v_imul hz dX8_layPay_217 ?_
                                  refine v_iload hz dX8_layPay_218 rfl ?_
                                  first | with_reducible refine v_iaddN hz dX8_layPay_220 ?_ | refine v_iadd hz dX8_layPay_220 ?_
                                  refine v_ic (v := nI 1) hz dX8_layPay_221 (by decide) ?_
                                  first | with_reducible refine v_iaddN hz dX8_layPay_222 ?_ | refine v_iadd hz dX8_layPay_222 ?_
                                  refine v_ialdN hz (by assumption) (by assumption) (by omega) (by decide) dX8_layPay_223 ?_
                                  refine v_top (y := nI (pay w S T i (q + 1))) (hP i (q + 1) (by omega) (by omega) (by omega)) ?_
                                  have b7 := pay_le hw2 hS hT i (q + 1)
                                  first | with_reducible refine v_iaddN hz dX8_layPay_224 ?_ | refine v_iadd hz dX8_layPay_224 ?_
                                  refine v_callSi hz lX8_133 (cX8_least_ok _ _ _ _ _ _ _ _) rfl rfl (Nat.le_of_ble_eq_true rfl) (by decide) ⟨Nat.zero_le _, Nat.zero_le _⟩ dX8_layPay_225 (fun r I1 h225 => ?_)
                                  obtain ⟨rfl, rfl⟩ := h225
                                  refine v_top (nI_min (by omega) (by omega)) ?_
                                  refine v_goto hz 233 dX8_layPay_228 (by decide) ?_
                                  refine v_istore hz dX8_layPay_233 (by decide) rfl ?_
                                  refine v_aload_n hz dX8_layPay_235 rfl ?_
                                  refine v_getR hz fX8_38 (by assumption) (by assumption) dX8_layPay_236 ?_
                                  refine v_bi (v := nI 9) hz dX8_layPay_239 (by decide) ?_
                                  refine v_iload_n hz dX8_layPay_241 rfl ?_
                                  first | with_reducible refine v_imulN hz dX8_layPay_242 ?_ | refine v_imul hz dX8_layPay_242 ?_
                                  refine v_iload hz dX8_layPay_243 rfl ?_
                                  first | with_reducible refine v_iaddN hz dX8_layPay_245 ?_ | refine v_iadd hz dX8_layPay_245 ?_
                                  refine v_iload hz dX8_layPay_246 rfl ?_
                                  refine v_iastN hz (by assumption) (by assumption) (by omega) (by decide) dX8_layPay_248 ?_
                                  refine v_iincE hz dX8_layPay_249 rfl (ip_dec q) (by decide) rfl ?_
                                  refine v_goto hz 19 dX8_layPay_252 (by decide) ?_
                                  exact v_sub (ih _ (by omega) (hC.put (by decide)) (hP.put hT (by omega) (by first | exact pv_nm (by omega) (by omega) | exact pv_nj hw2 hS hT (by omega) (by omega) | exact pv_im hw2 hS hT (by omega) (by omega) | exact pv_ij hw2 hS hT (by omega) (by omega) li lj)) (by first | exact hB.keep (u2_ne (hm.ne 17 16 (by decide) (by decide) (by decide))) | exact (hB.skip (by omega)).keep (u2_ne (hm.ne 17 16 (by decide) (by decide) (by decide))))) ⟨rfl, rfl, rfl, rfl, rfl, trivial⟩))
                        · first
                          | (exfalso; omega)
                          | (refine v_iload hz dX8_layPay_149 rfl ?_
                             refine v_aload_n hz dX8_layPay_151 rfl ?_
                             refine v_bi (v := nI 8) hz dX8_layPay_152 (by decide) ?_
                             refine v_iload_n hz dX8_layPay_154 rfl ?_
                             first | with_reducible refine v_imulN hz dX8_layPay_155 ?_ | refine v_imul hz dX8_layPay_155 ?_
                             refine v_iload_n hz dX8_layPay_156 rfl ?_
                             first | with_reducible refine v_iaddN hz dX8_layPay_157 ?_ | refine v_iadd hz dX8_layPay_157 ?_
                             refine v_callVi hz lX8_150 (cX8_costOf_ok _ _ _ _ _ _ A hm (8 * s1 + i) _ w (by omega) (g1.2.2.2 i (by omega)).1.2.1 (g1.2.2.2 i (by omega)).1.2.2.1 gw) (by assumption) rfl rfl (Nat.le_of_ble_eq_true rfl) (by decide) ⟨Nat.zero_le _, Nat.zero_le _⟩ dX8_layPay_158 (fun r I1 h158 => ?_)
                             obtain ⟨rfl, rfl⟩ := h158
                             have b4 := cst_le (L := S.2.1 i) hw2
                             refine v_aload_n hz dX8_layPay_161 rfl ?_
                             refine v_getR hz fX8_38 (by assumption) (by assumption) dX8_layPay_162 ?_
                             refine v_bi (v := nI 9) hz dX8_layPay_165 (by decide) ?_
                             refine v_iload_n hz dX8_layPay_167 rfl ?_
                             refine v_ic (v := nI 1) hz dX8_layPay_168 (by decide) ?_
                             first | with_reducible refine v_iaddN hz dX8_layPay_169 ?_ | refine v_iadd hz dX8_layPay_169 ?_
                             first | with_reducible refine v_imulN hz dX8_layPay_170 ?_ | refine v_imul hz dX8_layPay_170 ?_
                             refine v_iload hz dX8_layPay_171 rfl ?_
                             first | with_reducible refine v_iaddN hz dX8_layPay_173 ?_ | refine v_iadd hz dX8_layPay_173 ?_
                             refine v_ialdN hz (by assumption) (by assumption) (by omega) (by decide) dX8_layPay_174 ?_
                             refine v_top (y := nI (pay w S T (i + 1) q)) (hP (i + 1) q (by omega) (by omega) (by omega)) ?_
                             have b5 := pay_le hw2 hS hT (i + 1) q
                             first | with_reducible refine v_iaddN hz dX8_layPay_175 ?_ | refine v_iadd hz dX8_layPay_175 ?_
                             refine v_callSi hz lX8_133 (cX8_least_ok _ _ _ _ _ _ _ _) rfl rfl (Nat.le_of_ble_eq_true rfl) (by decide) ⟨Nat.zero_le _, Nat.zero_le _⟩ dX8_layPay_176 (fun r I1 h176 => ?_)
                             obtain ⟨rfl, rfl⟩ := h176
                             refine v_top (nI_min (by omega) (by omega)) ?_
                             refine v_goto hz 184 dX8_layPay_179 (by decide) ?_
                             refine v_istore hz dX8_layPay_184 (by decide) rfl ?_
                             refine v_iload hz dX8_layPay_186 rfl ?_
                             refine v_aload_n hz dX8_layPay_188 rfl ?_
                             refine v_getR hz fX8_13 (by assumption) (by assumption) dX8_layPay_189 ?_
                             refine v_iload_n hz dX8_layPay_192 rfl ?_
                             refine v_ialdN hz (by assumption) (by assumption) (by omega) (by decide) dX8_layPay_193 ?_
                             refine v_top m2 ?_
                             first | with_reducible refine v_icmp_geN hz 231 (by omega) (by omega) dX8_layPay_194 (by decide) (fun c194 => ?_) (fun c194 => ?_) | refine v_icmp_ge hz 231 dX8_layPay_194 (by decide) (fun c194 => ?_) (fun c194 => ?_)
                             · first
                               | (exfalso; omega)
                               | (refine v_iload hz dX8_layPay_231 rfl ?_
                                  refine v_istore hz dX8_layPay_233 (by decide) rfl ?_
                                  refine v_aload_n hz dX8_layPay_235 rfl ?_
                                  refine v_getR hz fX8_38 (by assumption) (by assumption) dX8_layPay_236 ?_
                                  refine v_bi (v := nI 9) hz dX8_layPay_239 (by decide) ?_
                                  refine v_iload_n hz dX8_layPay_241 rfl ?_
                                  first | with_reducible refine v_imulN hz dX8_layPay_242 ?_ | refine v_imul hz dX8_layPay_242 ?_
                                  refine v_iload hz dX8_layPay_243 rfl ?_
                                  first | with_reducible refine v_iaddN hz dX8_layPay_245 ?_ | refine v_iadd hz dX8_layPay_245 ?_
                                  refine v_iload hz dX8_layPay_246 rfl ?_
                                  refine v_iastN hz (by assumption) (by assumption) (by omega) (by decide) dX8_layPay_248 ?_
                                  refine v_iincE hz dX8_layPay_249 rfl (ip_dec q) (by decide) rfl ?_
                                  refine v_goto hz 19 dX8_layPay_252 (by decide) ?_
                                  exact v_sub (ih _ (by omega) (hC.put (by decide)) (hP.put hT (by omega) (by first | exact pv_nm (by omega) (by omega) | exact pv_nj hw2 hS hT (by omega) (by omega) | exact pv_im hw2 hS hT (by omega) (by omega) | exact pv_ij hw2 hS hT (by omega) (by omega) li lj)) (by first | exact hB.keep (u2_ne (hm.ne 17 16 (by decide) (by decide) (by decide))) | exact (hB.skip (by omega)).keep (u2_ne (hm.ne 17 16 (by decide) (by decide) (by decide))))) ⟨rfl, rfl, rfl, rfl, rfl, trivial⟩)
                             · first
                               | (exfalso; omega)
                               | (refine v_iload hz dX8_layPay_197 rfl ?_
                                  refine v_aload_n hz dX8_layPay_199 rfl ?_
                                  refine v_bi (v := nI 8) hz dX8_layPay_200 (by decide) ?_
                                  refine v_iload_n hz dX8_layPay_202 rfl ?_
                                  first | with_reducible refine v_imulN hz dX8_layPay_203 ?_ | refine v_imul hz dX8_layPay_203 ?_
                                  refine v_iload hz dX8_layPay_204 rfl ?_
                                  first | with_reducible refine v_iaddN hz dX8_layPay_206 ?_ | refine v_iadd hz dX8_layPay_206 ?_
                                  refine v_callVi hz lX8_150 (cX8_costOf_ok _ _ _ _ _ _ A hm (8 * s2 + q) _ w (by omega) (g2.2.2.2 q (by omega)).1.2.1 (g2.2.2.2 q (by omega)).1.2.2.1 gw) (by assumption) rfl rfl (Nat.le_of_ble_eq_true rfl) (by decide) ⟨Nat.zero_le _, Nat.zero_le _⟩ dX8_layPay_207 (fun r I1 h207 => ?_)
                                  obtain ⟨rfl, rfl⟩ := h207
                                  have b6 := cst_le (L := T.2.1 q) hw2
                                  refine v_aload_n hz dX8_layPay_210 rfl ?_
                                  refine v_getR hz fX8_38 (by assumption) (by assumption) dX8_layPay_211 ?_
                                  refine v_bi (v := nI 9) hz dX8_layPay_214 (by decide) ?_
                                  refine v_iload_n hz dX8_layPay_216 rfl ?_
                                  first | with_reducible refine v_imulN hz dX8_layPay_217 ?_ | refine v_imul hz dX8_layPay_217 ?_
                                  refine v_iload hz dX8_layPay_218 rfl ?_
                                  first | with_reducible refine v_iaddN hz dX8_layPay_220 ?_ | refine v_iadd hz dX8_layPay_220 ?_
                                  refine v_ic (v := nI 1) hz dX8_layPay_221 (by decide) ?_
                                  first | with_reducible refine v_iaddN hz dX8_layPay_222 ?_ | refine v_iadd hz dX8_layPay_222 ?_
                                  refine v_ialdN hz (by assumption) (by assumption) (by omega) (by decide) dX8_layPay_223 ?_
                                  refine v_top (y := nI (pay w S T i (q + 1))) (hP i (q + 1) (by omega) (by omega) (by omega)) ?_
                                  have b7 := pay_le hw2 hS hT i (q + 1)
                                  first | with_reducible refine v_iaddN hz dX8_layPay_224 ?_ | refine v_iadd hz dX8_layPay_224 ?_
                                  refine v_callSi hz lX8_133 (cX8_least_ok _ _ _ _ _ _ _ _) rfl rfl (Nat.le_of_ble_eq_true rfl) (by decide) ⟨Nat.zero_le _, Nat.zero_le _⟩ dX8_layPay_225 (fun r I1 h225 => ?_)
                                  obtain ⟨rfl, rfl⟩ := h225
                                  refine v_top (nI_min (by omega) (by omega)) ?_
                                  refine v_goto hz 233 dX8_layPay_228 (by decide) ?_
                                  refine v_istore hz dX8_layPay_233 (by decide) rfl ?_
                                  refine v_aload_n hz dX8_layPay_235 rfl ?_
                                  refine v_getR hz fX8_38 (by assumption) (by assumption) dX8_layPay_236 ?_
                                  refine v_bi (v := nI 9) hz dX8_layPay_239 (by decide) ?_
                                  refine v_iload_n hz dX8_layPay_241 rfl ?_
                                  first | with_reducible refine v_imulN hz dX8_layPay_242 ?_ | refine v_imul hz dX8_layPay_242 ?_
                                  refine v_iload hz dX8_layPay_243 rfl ?_
                                  first | with_reducible refine v_iaddN hz dX8_layPay_245 ?_ | refine v_iadd hz dX8_layPay_245 ?_
                                  refine v_iload hz dX8_layPay_246 rfl ?_
                                  refine v_iastN hz (by assumption) (by assumption) (by omega) (by decide) dX8_layPay_248 ?_
                                  refine v_iincE hz dX8_layPay_249 rfl (ip_dec q) (by decide) rfl ?_
                                  refine v_goto hz 19 dX8_layPay_252 (by decide) ?_
                                  exact v_sub (ih _ (by omega) (hC.put (by decide)) (hP.put hT (by omega) (by first | exact pv_nm (by omega) (by omega) | exact pv_nj hw2 hS hT (by omega) (by omega) | exact pv_im hw2 hS hT (by omega) (by omega) | exact pv_ij hw2 hS hT (by omega) (by omega) li lj)) (by first | exact hB.keep (u2_ne (hm.ne 17 16 (by decide) (by decide) (by decide))) | exact (hB.skip (by omega)).keep (u2_ne (hm.ne 17 16 (by decide) (by decide) (by decide))))) ⟨rfl, rfl, rfl, rfl, rfl, trivial⟩)))
                   · first
                     | (exfalso; omega)
                     | (refine v_aload_n hz dX8_layPay_74 rfl ?_
                        refine v_getR hz fX8_41 (by assumption) (by assumption) dX8_layPay_75 ?_
                        refine v_bi (v := nI 8) hz dX8_layPay_78 (by decide) ?_
                        refine v_iload_n hz dX8_layPay_80 rfl ?_
                        first | with_reducible refine v_imulN hz dX8_layPay_81 ?_ | refine v_imul hz dX8_layPay_81 ?_
                        refine v_iload hz dX8_layPay_82 rfl ?_
                        first | with_reducible refine v_iaddN hz dX8_layPay_84 ?_ | refine v_iadd hz dX8_layPay_84 ?_
                        refine v_aload_n hz dX8_layPay_85 rfl ?_
                        refine v_bi (v := nI 8) hz dX8_layPay_86 (by decide) ?_
                        refine v_iload_n hz dX8_layPay_88 rfl ?_
                        first | with_reducible refine v_imulN hz dX8_layPay_89 ?_ | refine v_imul hz dX8_layPay_89 ?_
                        refine v_iload_n hz dX8_layPay_90 rfl ?_
                        first | with_reducible refine v_iaddN hz dX8_layPay_91 ?_ | refine v_iadd hz dX8_layPay_91 ?_
                        refine v_bi (v := nI 8) hz dX8_layPay_92 (by decide) ?_
                        refine v_iload_n hz dX8_layPay_94 rfl ?_
                        first | with_reducible refine v_imulN hz dX8_layPay_95 ?_ | refine v_imul hz dX8_layPay_95 ?_
                        refine v_iload hz dX8_layPay_96 rfl ?_
                        first | with_reducible refine v_iaddN hz dX8_layPay_98 ?_ | refine v_iadd hz dX8_layPay_98 ?_
                        have li := (g1.2.2.2 i (by omega)).1.2.1
                        have lj := (g2.2.2.2 q (by omega)).1.2.1
                        refine v_callVi hz lX8_147 (cX8_bothCost_ok _ _ _ _ _ _ A hm w (8 * s1 + i) (8 * s2 + q) _ _ _ _ _ _ gw (g1.2.2.2 i (by omega)).1 (g2.2.2.2 q (by omega)).1 (g1.2.2.2 i (by omega)).2 (g2.2.2.2 q (by omega)).2) (by assumption) rfl rfl (Nat.le_of_ble_eq_true rfl) (by decide) ⟨Nat.zero_le _, Nat.zero_le _⟩ dX8_layPay_99 (fun r I1 h99 => ?_)
                        obtain ⟨rfl, hF⟩ := h99
                        refine v_iastN hz (by assumption) (by assumption) (by omega) (by decide) dX8_layPay_102 ?_
                        refine v_gen (fun I2 hI2 => ?_)
                        have a7 : I1 (A 147) = I (A 147) := hm.fm hF 17 (by decide) (by decide)
                        have hB : payB I2 A w S T i q := by rw [hI2]; exact (hB.keep a7).put hT (by omega) rfl
                        have n6 : I2 (A 146) = I (A 146) := by rw [hI2, u2_ne (hm.ne 16 17 (by decide) (by decide) (by decide))]; exact hm.fm hF 16 (by decide) (by decide)
                        have hP : payP I2 A w S T i (q + 1) := hP.keep n6
                        have hC : Fm [145, 146, 147] A I0 I2 := by rw [hI2]; exact (hC.tr hF (fun _ h => h) (by decide)).put (by decide)
                        have e4 : I2 (A 134) = I0 (A 134) := hm.fm hC 4 (by decide) (by decide)
                        have e6 : I2 (A 136) = I0 (A 136) := hm.fm hC 6 (by decide) (by decide)
                        have e7 : I2 (A 137) = I0 (A 137) := hm.fm hC 7 (by decide) (by decide)
                        have e8 : I2 (A 138) = I0 (A 138) := hm.fm hC 8 (by decide) (by decide)
                        have g1 : msg I2 A s1 S := h1.keep e4 e6 e7 e8
                        have g2 : msg I2 A s2 T := h2.keep e4 e6 e7 e8
                        have gw : I2 (A 130) 9 = nI w := by rw [hm.fm hC 0 (by decide) (by decide)]; exact hw.1
                        have m1 := g1.2.2.1
                        have m2 := g2.2.2.1
                        have bl := bcn_le (N := 1048576) (S := S) (T := T) (i := i) (j := q) (by decide) li lj hw2
                        refine v_iload hz dX8_layPay_103 rfl ?_
                        refine v_aload_n hz dX8_layPay_105 rfl ?_
                        refine v_getR hz fX8_41 (by assumption) (by assumption) dX8_layPay_106 ?_
                        refine v_bi (v := nI 8) hz dX8_layPay_109 (by decide) ?_
                        refine v_iload_n hz dX8_layPay_111 rfl ?_
                        first | with_reducible refine v_imulN hz dX8_layPay_112 ?_ | refine v_imul hz dX8_layPay_112 ?_
                        refine v_iload hz dX8_layPay_113 rfl ?_
                        first | with_reducible refine v_iaddN hz dX8_layPay_115 ?_ | refine v_iadd hz dX8_layPay_115 ?_
                        refine v_ialdN hz (by assumption) (by assumption) (by omega) (by decide) dX8_layPay_116 ?_
                        refine v_top (y := nI (bcn 1048576 w S T i q)) (hB i q (by omega) (by omega) (by omega)) ?_
                        refine v_aload_n hz dX8_layPay_117 rfl ?_
                        refine v_getR hz fX8_38 (by assumption) (by assumption) dX8_layPay_118 ?_
                        refine v_bi (v := nI 9) hz dX8_layPay_121 (by decide) ?_
                        refine v_iload_n hz dX8_layPay_123 rfl ?_
                        refine v_ic (v := nI 1) hz dX8_layPay_124 (by decide) ?_
                        first | with_reducible refine v_iaddN hz dX8_layPay_125 ?_ | refine v_iadd hz dX8_layPay_125 ?_
                        first | with_reducible refine v_imulN hz dX8_layPay_126 ?_ | refine v_imul hz dX8_layPay_126 ?_
                        refine v_iload hz dX8_layPay_127 rfl ?_
                        first | with_reducible refine v_iaddN hz dX8_layPay_129 ?_ | refine v_iadd hz dX8_layPay_129 ?_
                        refine v_ic (v := nI 1) hz dX8_layPay_130 (by decide) ?_
                        first | with_reducible refine v_iaddN hz dX8_layPay_131 ?_ | refine v_iadd hz dX8_layPay_131 ?_
                        refine v_ialdN hz (by assumption) (by assumption) (by omega) (by decide) dX8_layPay_132 ?_
                        refine v_top (y := nI (pay w S T (i + 1) (q + 1))) (hP (i + 1) (q + 1) (by omega) (by omega) (by omega)) ?_
                        have b3 := pay_le hw2 hS hT (i + 1) (q + 1)
                        first | with_reducible refine v_iaddN hz dX8_layPay_133 ?_ | refine v_iadd hz dX8_layPay_133 ?_
                        refine v_callSi hz lX8_133 (cX8_least_ok _ _ _ _ _ _ _ _) rfl rfl (Nat.le_of_ble_eq_true rfl) (by decide) ⟨Nat.zero_le _, Nat.zero_le _⟩ dX8_layPay_134 (fun r I1 h134 => ?_)
                        obtain ⟨rfl, rfl⟩ := h134
                        refine v_top (nI_min (by omega) (by omega)) ?_
                        refine v_istore hz dX8_layPay_137 (by decide) rfl ?_
                        refine v_iload_n hz dX8_layPay_139 rfl ?_
                        refine v_aload_n hz dX8_layPay_140 rfl ?_
                        refine v_getR hz fX8_13 (by assumption) (by assumption) dX8_layPay_141 ?_
                        refine v_iload_n hz dX8_layPay_144 rfl ?_
                        refine v_ialdN hz (by assumption) (by assumption) (by omega) (by decide) dX8_layPay_145 ?_
                        refine v_top m1 ?_
                        first | with_reducible refine v_icmp_geN hz 182 (by omega) (by omega) dX8_layPay_146 (by decide) (fun c146 => ?_) (fun c146 => ?_) | refine v_icmp_ge hz 182 dX8_layPay_146 (by decide) (fun c146 => ?_) (fun c146 => ?_)
                        · first
                          | (exfalso; omega)
                          | (refine v_iload hz dX8_layPay_182 rfl ?_
                             refine v_istore hz dX8_layPay_184 (by decide) rfl ?_
                             refine v_iload hz dX8_layPay_186 rfl ?_
                             refine v_aload_n hz dX8_layPay_188 rfl ?_
                             refine v_getR hz fX8_13 (by assumption) (by assumption) dX8_layPay_189 ?_
                             refine v_iload_n hz dX8_layPay_192 rfl ?_
                             refine v_ialdN hz (by assumption) (by assumption) (by omega) (by decide) dX8_layPay_193 ?_
                             refine v_top m2 ?_
                             first | with_reducible refine v_icmp_geN hz 231 (by omega) (by omega) dX8_layPay_194 (by decide) (fun c194 => ?_) (fun c194 => ?_) | refine v_icmp_ge hz 231 dX8_layPay_194 (by decide) (fun c194 => ?_) (fun c194 => ?_)
                             · first
                               | (exfalso; omega)
                               | (refine v_iload hz dX8_layPay_231 rfl ?_
                                  refine v_istore hz dX8_layPay_233 (by decide) rfl ?_
                                  refine v_aload_n hz dX8_layPay_235 rfl ?_
                                  refine v_getR hz fX8_38 (by assumption) (by assumption) dX8_layPay_236 ?_
                                  refine v_bi (v := nI 9) hz dX8_layPay_239 (by decide) ?_
                                  refine v_iload_n hz dX8_layPay_241 rfl ?_
                                  first | with_reducible refine v_imulN hz dX8_layPay_242 ?_ | refine v_imul hz dX8_layPay_242 ?_
                                  refine v_iload hz dX8_layPay_243 rfl ?_
                                  first | with_reducible refine v_iaddN hz dX8_layPay_245 ?_ | refine v_iadd hz dX8_layPay_245 ?_
                                  refine v_iload hz dX8_layPay_246 rfl ?_
                                  refine v_iastN hz (by assumption) (by assumption) (by omega) (by decide) dX8_layPay_248 ?_
                                  refine v_iincE hz dX8_layPay_249 rfl (ip_dec q) (by decide) rfl ?_
                                  refine v_goto hz 19 dX8_layPay_252 (by decide) ?_
                                  exact v_sub (ih _ (by omega) (hC.put (by decide)) (hP.put hT (by omega) (by first | exact pv_nm (by omega) (by omega) | exact pv_nj hw2 hS hT (by omega) (by omega) | exact pv_im hw2 hS hT (by omega) (by omega) | exact pv_ij hw2 hS hT (by omega) (by omega) li lj)) (by first | exact hB.keep (u2_ne (hm.ne 17 16 (by decide) (by decide) (by decide))) | exact (hB.skip (by omega)).keep (u2_ne (hm.ne 17 16 (by decide) (by decide) (by decide))))) ⟨rfl, rfl, rfl, rfl, rfl, trivial⟩)
                             · first
                               | (exfalso; omega)
                               | (refine v_iload hz dX8_layPay_197 rfl ?_
                                  refine v_aload_n hz dX8_layPay_199 rfl ?_
                                  refine v_bi (v := nI 8) hz dX8_layPay_200 (by decide) ?_
                                  refine v_iload_n hz dX8_layPay_202 rfl ?_
                                  first | with_reducible refine v_imulN hz dX8_layPay_203 ?_ | refine v_imul hz dX8_layPay_203 ?_
                                  refine v_iload hz dX8_layPay_204 rfl ?_
                                  first | with_reducible refine v_iaddN hz dX8_layPay_206 ?_ | refine v_iadd hz dX8_layPay_206 ?_
                                  refine v_callVi hz lX8_150 (cX8_costOf_ok _ _ _ _ _ _ A hm (8 * s2 + q) _ w (by omega) (g2.2.2.2 q (by omega)).1.2.1 (g2.2.2.2 q (by omega)).1.2.2.1 gw) (by assumption) rfl rfl (Nat.le_of_ble_eq_true rfl) (by decide) ⟨Nat.zero_le _, Nat.zero_le _⟩ dX8_layPay_207 (fun r I1 h207 => ?_)
                                  obtain ⟨rfl, rfl⟩ := h207
                                  have b6 := cst_le (L := T.2.1 q) hw2
                                  refine v_aload_n hz dX8_layPay_210 rfl ?_
                                  refine v_getR hz fX8_38 (by assumption) (by assumption) dX8_layPay_211 ?_
                                  refine v_bi (v := nI 9) hz dX8_layPay_214 (by decide) ?_
                                  refine v_iload_n hz dX8_layPay_216 rfl ?_
                                  first | with_reducible refine v_imulN hz dX8_layPay_217 ?_ | refine v_imul hz dX8_layPay_217 ?_
                                  refine v_iload hz dX8_layPay_218 rfl ?_
                                  first | with_reducible refine v_iaddN hz dX8_layPay_220 ?_ | refine v_iadd hz dX8_layPay_220 ?_
                                  refine v_ic (v := nI 1) hz dX8_layPay_221 (by decide) ?_
                                  first | with_reducible refine v_iaddN hz dX8_layPay_222 ?_ | refine v_iadd hz dX8_layPay_222 ?_
                                  refine v_ialdN hz (by assumption) (by assumption) (by omega) (by decide) dX8_layPay_223 ?_
                                  refine v_top (y := nI (pay w S T i (q + 1))) (hP i (q + 1) (by omega) (by omega) (by omega)) ?_
                                  have b7 := pay_le hw2 hS hT i (q + 1)
                                  first | with_reducible refine v_iaddN hz dX8_layPay_224 ?_ | refine v_iadd hz dX8_layPay_224 ?_
                                  refine v_callSi hz lX8_133 (cX8_least_ok _ _ _ _ _ _ _ _) rfl rfl (Nat.le_of_ble_eq_true rfl) (by decide) ⟨Nat.zero_le _, Nat.zero_le _⟩ dX8_layPay_225 (fun r I1 h225 => ?_)
                                  obtain ⟨rfl, rfl⟩ := h225
                                  refine v_top (nI_min (by omega) (by omega)) ?_
                                  refine v_goto hz 233 dX8_layPay_228 (by decide) ?_
                                  refine v_istore hz dX8_layPay_233 (by decide) rfl ?_
                                  refine v_aload_n hz dX8_layPay_235 rfl ?_
                                  refine v_getR hz fX8_38 (by assumption) (by assumption) dX8_layPay_236 ?_
                                  refine v_bi (v := nI 9) hz dX8_layPay_239 (by decide) ?_
                                  refine v_iload_n hz dX8_layPay_241 rfl ?_
                                  first | with_reducible refine v_imulN hz dX8_layPay_242 ?_ | refine v_imul hz dX8_layPay_242 ?_
                                  refine v_iload hz dX8_layPay_243 rfl ?_
                                  first | with_reducible refine v_iaddN hz dX8_layPay_245 ?_ | refine v_iadd hz dX8_layPay_245 ?_
                                  refine v_iload hz dX8_layPay_246 rfl ?_
                                  refine v_iastN hz (by assumption) (by assumption) (by omega) (by decide) dX8_layPay_248 ?_
                                  refine v_iincE hz dX8_layPay_249 rfl (ip_dec q) (by decide) rfl ?_
                                  refine v_goto hz 19 dX8_layPay_252 (by decide) ?_
                                  exact v_sub (ih _ (by omega) (hC.put (by decide)) (hP.put hT (by omega) (by first | exact pv_nm (by omega) (by omega) | exact pv_nj hw2 hS hT (by omega) (by omega) | exact pv_im hw2 hS hT (by omega) (by omega) | exact pv_ij hw2 hS hT (by omega) (by omega) li lj)) (by first | exact hB.keep (u2_ne (hm.ne 17 16 (by decide) (by decide) (by decide))) | exact (hB.skip (by omega)).keep (u2_ne (hm.ne 17 16 (by decide) (by decide) (by decide))))) ⟨rfl, rfl, rfl, rfl, rfl, trivial⟩))
                        · first
                          | (exfalso; omega)
                          | (refine v_iload hz dX8_layPay_149 rfl ?_
                             refine v_aload_n hz dX8_layPay_151 rfl ?_
                             refine v_bi (v := nI 8) hz dX8_layPay_152 (by decide) ?_
                             refine v_iload_n hz dX8_layPay_154 rfl ?_
                             first | with_reducible refine v_imulN hz dX8_layPay_155 ?_ | refine v_imul hz dX8_layPay_155 ?_
                             refine v_iload_n hz dX8_layPay_156 rfl ?_
                             first | with_reducible refine v_iaddN hz dX8_layPay_157 ?_ | refine v_iadd hz dX8_layPay_157 ?_
                             refine v_callVi hz lX8_150 (cX8_costOf_ok _ _ _ _ _ _ A hm (8 * s1 + i) _ w (by omega) (g1.2.2.2 i (by omega)).1.2.1 (g1.2.2.2 i (by omega)).1.2.2.1 gw) (by assumption) rfl rfl (Nat.le_of_ble_eq_true rfl) (by decide) ⟨Nat.zero_le _, Nat.zero_le _⟩ dX8_layPay_158 (fun r I1 h158 => ?_)
                             obtain ⟨rfl, rfl⟩ := h158
                             have b4 := cst_le (L := S.2.1 i) hw2
                             refine v_aload_n hz dX8_layPay_161 rfl ?_
                             refine v_getR hz fX8_38 (by assumption) (by assumption) dX8_layPay_162 ?_
                             refine v_bi (v := nI 9) hz dX8_layPay_165 (by decide) ?_
                             refine v_iload_n hz dX8_layPay_167 rfl ?_
                             refine v_ic (v := nI 1) hz dX8_layPay_168 (by decide) ?_
                             first | with_reducible refine v_iaddN hz dX8_layPay_169 ?_ | refine v_iadd hz dX8_layPay_169 ?_
                             first | with_reducible refine v_imulN hz dX8_layPay_170 ?_ | refine v_imul hz dX8_layPay_170 ?_
                             refine v_iload hz dX8_layPay_171 rfl ?_
                             first | with_reducible refine v_iaddN hz dX8_layPay_173 ?_ | refine v_iadd hz dX8_layPay_173 ?_
                             refine v_ialdN hz (by assumption) (by assumption) (by omega) (by decide) dX8_layPay_174 ?_
                             refine v_top (y := nI (pay w S T (i + 1) q)) (hP (i + 1) q (by omega) (by omega) (by omega)) ?_
                             have b5 := pay_le hw2 hS hT (i + 1) q
                             first | with_reducible refine v_iaddN hz dX8_layPay_175 ?_ | refine v_iadd hz dX8_layPay_175 ?_
                             refine v_callSi hz lX8_133 (cX8_least_ok _ _ _ _ _ _ _ _) rfl rfl (Nat.le_of_ble_eq_true rfl) (by decide) ⟨Nat.zero_le _, Nat.zero_le _⟩ dX8_layPay_176 (fun r I1 h176 => ?_)
                             obtain ⟨rfl, rfl⟩ := h176
                             refine v_top (nI_min (by omega) (by omega)) ?_
                             refine v_goto hz 184 dX8_layPay_179 (by decide) ?_
                             refine v_istore hz dX8_layPay_184 (by decide) rfl ?_
                             refine v_iload hz dX8_layPay_186 rfl ?_
                             refine v_aload_n hz dX8_layPay_188 rfl ?_
                             refine v_getR hz fX8_13 (by assumption) (by assumption) dX8_layPay_189 ?_
                             refine v_iload_n hz dX8_layPay_192 rfl ?_
                             refine v_ialdN hz (by assumption) (by assumption) (by omega) (by decide) dX8_layPay_193 ?_
                             refine v_top m2 ?_
                             first | with_reducible refine v_icmp_geN hz 231 (by omega) (by omega) dX8_layPay_194 (by decide) (fun c194 => ?_) (fun c194 => ?_) | refine v_icmp_ge hz 231 dX8_layPay_194 (by decide) (fun c194 => ?_) (fun c194 => ?_)
                             · first
                               | (exfalso; omega)
                               | (refine v_iload hz dX8_layPay_231 rfl ?_
                                  refine v_istore hz dX8_layPay_233 (by decide) rfl ?_
                                  refine v_aload_n hz dX8_layPay_235 rfl ?_
                                  refine v_getR hz fX8_38 (by assumption) (by assumption) dX8_layPay_236 ?_
                                  refine v_bi (v := nI 9) hz dX8_layPay_239 (by decide) ?_
                                  refine v_iload_n hz dX8_layPay_241 rfl ?_
                                  first | with_reducible refine v_imulN hz dX8_layPay_242 ?_ | refine v_imul hz dX8_layPay_242 ?_
                                  refine v_iload hz dX8_layPay_243 rfl ?_
                                  first | with_reducible refine v_iaddN hz dX8_layPay_245 ?_ | refine v_iadd hz dX8_layPay_245 ?_
                                  refine v_iload hz dX8_layPay_246 rfl ?_
                                  refine v_iastN hz (by assumption) (by assumption) (by omega) (by decide) dX8_layPay_248 ?_
                                  refine v_iincE hz dX8_layPay_249 rfl (ip_dec q) (by decide) rfl ?_
                                  refine v_goto hz 19 dX8_layPay_252 (by decide) ?_
                                  exact v_sub (ih _ (by omega) (hC.put (by decide)) (hP.put hT (by omega) (by first | exact pv_nm (by omega) (by omega) | exact pv_nj hw2 hS hT (by omega) (by omega) | exact pv_im hw2 hS hT (by omega) (by omega) | exact pv_ij hw2 hS hT (by omega) (by omega) li lj)) (by first | exact hB.keep (u2_ne (hm.ne 17 16 (by decide) (by decide) (by decide))) | exact (hB.skip (by omega)).keep (u2_ne (hm.ne 17 16 (by decide) (by decide) (by decide))))) ⟨rfl, rfl, rfl, rfl, rfl, trivial⟩)
                             · first
                               | (exfalso; omega)
                               | (refine v_iload hz dX8_layPay_197 rfl ?_
                                  refine v_aload_n hz dX8_layPay_199 rfl ?_
                                  refine v_bi (v := nI 8) hz dX8_layPay_200 (by decide) ?_
                                  refine v_iload_n hz dX8_layPay_202 rfl ?_
                                  first | with_reducible refine v_imulN hz dX8_layPay_203 ?_ | refine v_imul hz dX8_layPay_203 ?_
                                  refine v_iload hz dX8_layPay_204 rfl ?_
                                  first | with_reducible refine v_iaddN hz dX8_layPay_206 ?_ | refine v_iadd hz dX8_layPay_206 ?_
                                  refine v_callVi hz lX8_150 (cX8_costOf_ok _ _ _ _ _ _ A hm (8 * s2 + q) _ w (by omega) (g2.2.2.2 q (by omega)).1.2.1 (g2.2.2.2 q (by omega)).1.2.2.1 gw) (by assumption) rfl rfl (Nat.le_of_ble_eq_true rfl) (by decide) ⟨Nat.zero_le _, Nat.zero_le _⟩ dX8_layPay_207 (fun r I1 h207 => ?_)
                                  obtain ⟨rfl, rfl⟩ := h207
                                  have b6 := cst_le (L := T.2.1 q) hw2
                                  refine v_aload_n hz dX8_layPay_210 rfl ?_
                                  refine v_getR hz fX8_38 (by assumption) (by assumption) dX8_layPay_211 ?_
                                  refine v_bi (v := nI 9) hz dX8_layPay_214 (by decide) ?_
                                  refine v_iload_n hz dX8_layPay_216 rfl ?_
                                  first | with_reducible refine v_imulN hz dX8_layPay_217 ?_ | refine v_imul hz dX8_layPay_217 ?_
                                  refine v_iload hz dX8_layPay_218 rfl ?_
                                  first | with_reducible refine v_iaddN hz dX8_layPay_220 ?_ | refine v_iadd hz dX8_layPay_220 ?_
                                  refine v_ic (v := nI 1) hz dX8_layPay_221 (by decide) ?_
                                  first | with_reducible refine v_iaddN hz dX8_layPay_222 ?_ | refine v_iadd hz dX8_layPay_222 ?_
                                  refine v_ialdN hz (by assumption) (by assumption) (by omega) (by decide) dX8_layPay_223 ?_
                                  refine v_top (y := nI (pay w S T i (q + 1))) (hP i (q + 1) (by omega) (by omega) (by omega)) ?_
                                  have b7 := pay_le hw2 hS hT i (q + 1)
                                  first | with_reducible refine v_iaddN hz dX8_layPay_224 ?_ | refine v_iadd hz dX8_layPay_224 ?_
                                  refine v_callSi hz lX8_133 (cX8_least_ok _ _ _ _ _ _ _ _) rfl rfl (Nat.le_of_ble_eq_true rfl) (by decide) ⟨Nat.zero_le _, Nat.zero_le _⟩ dX8_layPay_225 (fun r I1 h225 => ?_)
                                  obtain ⟨rfl, rfl⟩ := h225
                                  refine v_top (nI_min (by omega) (by omega)) ?_
                                  refine v_goto hz 233 dX8_layPay_228 (by decide) ?_
                                  refine v_istore hz dX8_layPay_233 (by decide) rfl ?_
                                  refine v_aload_n hz dX8_layPay_235 rfl ?_
                                  refine v_getR hz fX8_38 (by assumption) (by assumption) dX8_layPay_236 ?_
                                  refine v_bi (v := nI 9) hz dX8_layPay_239 (by decide) ?_
                                  refine v_iload_n hz dX8_layPay_241 rfl ?_
                                  first | with_reducible refine v_imulN hz dX8_layPay_242 ?_ | refine v_imul hz dX8_layPay_242 ?_
                                  refine v_iload hz dX8_layPay_243 rfl ?_
                                  first | with_reducible refine v_iaddN hz dX8_layPay_245 ?_ | refine v_iadd hz dX8_layPay_245 ?_
                                  refine v_iload hz dX8_layPay_246 rfl ?_
                                  refine v_iastN hz (by assumption) (by assumption) (by omega) (by decide) dX8_layPay_248 ?_
                                  refine v_iincE hz dX8_layPay_249 rfl (ip_dec q) (by decide) rfl ?_
                                  refine v_goto hz 19 dX8_layPay_252 (by decide) ?_
                                  exact v_sub (ih _ (by omega) (hC.put (by decide)) (hP.put hT (by omega) (by first | exact pv_nm (by omega) (by omega) | exact pv_nj hw2 hS hT (by omega) (by omega) | exact pv_im hw2 hS hT (by omega) (by omega) | exact pv_ij hw2 hS hT (by omega) (by omega) li lj)) (by first | exact hB.keep (u2_ne (hm.ne 17 16 (by decide) (by decide) (by decide))) | exact (hB.skip (by omega)).keep (u2_ne (hm.ne 17 16 (by decide) (by decide) (by decide))))) ⟨rfl, rfl, rfl, rfl, rfl, trivial⟩)))))
         · first
           | (exfalso; omega)
           | (refine v_ic (v := nI 0) hz dX8_layPay_45 (by decide) ?_
              refine v_goto hz 51 dX8_layPay_46 (by decide) ?_
              refine v_istore hz dX8_layPay_51 (by decide) rfl ?_
              refine v_iload_n hz dX8_layPay_53 rfl ?_
              refine v_aload_n hz dX8_layPay_54 rfl ?_
              refine v_getR hz fX8_13 (by assumption) (by assumption) dX8_layPay_55 ?_
              refine v_iload_n hz dX8_layPay_58 rfl ?_
              refine v_ialdN hz (by assumption) (by assumption) (by omega) (by decide) dX8_layPay_59 ?_
              refine v_top m1 ?_
              first | with_reducible refine v_icmp_geN hz 139 (by omega) (by omega) dX8_layPay_60 (by decide) (fun c60 => ?_) (fun c60 => ?_) | refine v_icmp_ge hz 139 dX8_layPay_60 (by decide) (fun c60 => ?_) (fun c60 => ?_)
              · first
                | (exfalso; omega)
                | (refine v_iload_n hz dX8_layPay_139 rfl ?_
                   refine v_aload_n hz dX8_layPay_140 rfl ?_
                   refine v_getR hz fX8_13 (by assumption) (by assumption) dX8_layPay_141 ?_
                   refine v_iload_n hz dX8_layPay_144 rfl ?_
                   refine v_ialdN hz (by assumption) (by assumption) (by omega) (by decide) dX8_layPay_145 ?_
                   refine v_top m1 ?_
                   first | with_reducible refine v_icmp_geN hz 182 (by omega) (by omega) dX8_layPay_146 (by decide) (fun c146 => ?_) (fun c146 => ?_) | refine v_icmp_ge hz 182 dX8_layPay_146 (by decide) (fun c146 => ?_) (fun c146 => ?_)
                   · first
                     | (exfalso; omega)
                     | (refine v_iload hz dX8_layPay_182 rfl ?_
                        refine v_istore hz dX8_layPay_184 (by decide) rfl ?_
                        refine v_iload hz dX8_layPay_186 rfl ?_
                        refine v_aload_n hz dX8_layPay_188 rfl ?_
                        refine v_getR hz fX8_13 (by assumption) (by assumption) dX8_layPay_189 ?_
                        refine v_iload_n hz dX8_layPay_192 rfl ?_
                        refine v_ialdN hz (by assumption) (by assumption) (by omega) (by decide) dX8_layPay_193 ?_
                        refine v_top m2 ?_
                        first | with_reducible refine v_icmp_geN hz 231 (by omega) (by omega) dX8_layPay_194 (by decide) (fun c194 => ?_) (fun c194 => ?_) | refine v_icmp_ge hz 231 dX8_layPay_194 (by decide) (fun c194 => ?_) (fun c194 => ?_)
                        · first
                          | (exfalso; omega)
                          | (refine v_iload hz dX8_layPay_231 rfl ?_
                             refine v_istore hz dX8_layPay_233 (by decide) rfl ?_
                             refine v_aload_n hz dX8_layPay_235 rfl ?_
                             refine v_getR hz fX8_38 (by assumption) (by assumption) dX8_layPay_236 ?_
                             refine v_bi (v := nI 9) hz dX8_layPay_239 (by decide) ?_
                             refine v_iload_n hz dX8_layPay_241 rfl ?_
                             first | with_reducible refine v_imulN hz dX8_layPay_242 ?_ | refine v_imul hz dX8_layPay_242 ?_
                             refine v_iload hz dX8_layPay_243 rfl ?_
                             first | with_reducible refine v_iaddN hz dX8_layPay_245 ?_ | refine v_iadd hz dX8_layPay_245 ?_
                             refine v_iload hz dX8_layPay_246 rfl ?_
                             refine v_iastN hz (by assumption) (by assumption) (by omega) (by decide) dX8_layPay_248 ?_
                             refine v_iincE hz dX8_layPay_249 rfl (ip_dec q) (by decide) rfl ?_
                             refine v_goto hz 19 dX8_layPay_252 (by decide) ?_
                             exact v_sub (ih _ (by omega) (hC.put (by decide)) (hP.put hT (by omega) (by first | exact pv_nm (by omega) (by omega) | exact pv_nj hw2 hS hT (by omega) (by omega) | exact pv_im hw2 hS hT (by omega) (by omega) | exact pv_ij hw2 hS hT (by omega) (by omega) li lj)) (by first | exact hB.keep (u2_ne (hm.ne 17 16 (by decide) (by decide) (by decide))) | exact (hB.skip (by omega)).keep (u2_ne (hm.ne 17 16 (by decide) (by decide) (by decide))))) ⟨rfl, rfl, rfl, rfl, rfl, trivial⟩)
                        · first
                          | (exfalso; omega)
                          | (refine v_iload hz dX8_layPay_197 rfl ?_
                             refine v_aload_n hz dX8_layPay_199 rfl ?_
                             refine v_bi (v := nI 8) hz dX8_layPay_200 (by decide) ?_
                             refine v_iload_n hz dX8_layPay_202 rfl ?_
                             first | with_reducible refine v_imulN hz dX8_layPay_203 ?_ | refine v_imul hz dX8_layPay_203 ?_
                             refine v_iload hz dX8_layPay_204 rfl ?_
                             first | with_reducible refine v_iaddN hz dX8_layPay_206 ?_ | refine v_iadd hz dX8_layPay_206 ?_
                             refine v_callVi hz lX8_150 (cX8_costOf_ok _ _ _ _ _ _ A hm (8 * s2 + q) _ w (by omega) (g2.2.2.2 q (by omega)).1.2.1 (g2.2.2.2 q (by omega)).1.2.2.1 gw) (by assumption) rfl rfl (Nat.le_of_ble_eq_true rfl) (by decide) ⟨Nat.zero_le _, Nat.zero_le _⟩ dX8_layPay_207 (fun r I1 h207 => ?_)
                             obtain ⟨rfl, rfl⟩ := h207
                             have b6 := cst_le (L := T.2.1 q) hw2
                             refine v_aload_n hz dX8_layPay_210 rfl ?_
                             refine v_getR hz fX8_38 (by assumption) (by assumption) dX8_layPay_211 ?_
                             refine v_bi (v := nI 9) hz dX8_layPay_214 (by decide) ?_
                             refine v_iload_n hz dX8_layPay_216 rfl ?_
                             first | with_reducible refine v_imulN hz dX8_layPay_217 ?_ | refine v_imul hz dX8_layPay_217 ?_
                             refine v_iload hz dX8_layPay_218 rfl ?_
                             first | with_reducible refine v_iaddN hz dX8_layPay_220 ?_ | refine v_iadd hz dX8_layPay_220 ?_
                             refine v_ic (v := nI 1) hz dX8_layPay_221 (by decide) ?_
                             first | with_reducible refine v_iaddN hz dX8_layPay_222 ?_ | refine v_iadd hz dX8_layPay_222 ?_
                             refine v_ialdN hz (by assumption) (by assumption) (by omega) (by decide) dX8_layPay_223 ?_
                             refine v_top (y := nI (pay w S T i (q + 1))) (hP i (q + 1) (by omega) (by omega) (by omega)) ?_
                             have b7 := pay_le hw2 hS hT i (q + 1)
                             first | with_reducible refine v_iaddN hz dX8_layPay_224 ?_ | refine v_iadd hz dX8_layPay_224 ?_
                             refine v_callSi hz lX8_133 (cX8_least_ok _ _ _ _ _ _ _ _) rfl rfl (Nat.le_of_ble_eq_true rfl) (by decide) ⟨Nat.zero_le _, Nat.zero_le _⟩ dX8_layPay_225 (fun r I1 h225 => ?_)
                             obtain ⟨rfl, rfl⟩ := h225
                             refine v_top (nI_min (by omega) (by omega)) ?_
                             refine v_goto hz 233 dX8_layPay_228 (by decide) ?_
                             refine v_istore hz dX8_layPay_233 (by decide) rfl ?_
                             refine v_aload_n hz dX8_layPay_235 rfl ?_
                             refine v_getR hz fX8_38 (by assumption) (by assumption) dX8_layPay_236 ?_
                             refine v_bi (v := nI 9) hz dX8_layPay_239 (by decide) ?_
                             refine v_iload_n hz dX8_layPay_241 rfl ?_
                             first | with_reducible refine v_imulN hz dX8_layPay_242 ?_ | refine v_imul hz dX8_layPay_242 ?_
                             refine v_iload hz dX8_layPay_243 rfl ?_
                             first | with_reducible refine v_iaddN hz dX8_layPay_245 ?_ | refine v_iadd hz dX8_layPay_245 ?_
                             refine v_iload hz dX8_layPay_246 rfl ?_
                             refine v_iastN hz (by assumption) (by assumption) (by omega) (by decide) dX8_layPay_248 ?_
                             refine v_iincE hz dX8_layPay_249 rfl (ip_dec q) (by decide) rfl ?_
                             refine v_goto hz 19 dX8_layPay_252 (by decide) ?_
                             exact v_sub (ih _ (by omega) (hC.put (by decide)) (hP.put hT (by omega) (by first | exact pv_nm (by omega) (by omega) | exact pv_nj hw2 hS hT (by omega) (by omega) | exact pv_im hw2 hS hT (by omega) (by omega) | exact pv_ij hw2 hS hT (by omega) (by omega) li lj)) (by first | exact hB.keep (u2_ne (hm.ne 17 16 (by decide) (by decide) (by decide))) | exact (hB.skip (by omega)).keep (u2_ne (hm.ne 17 16 (by decide) (by decide) (by decide))))) ⟨rfl, rfl, rfl, rfl, rfl, trivial⟩))
                   · first
                     | (exfalso; omega)
                     | (refine v_iload hz dX8_layPay_149 rfl ?_
                        refine v_aload_n hz dX8_layPay_151 rfl ?_
                        refine v_bi (v := nI 8) hz dX8_layPay_152 (by decide) ?_
                        refine v_iload_n hz dX8_layPay_154 rfl ?_
                        first | with_reducible refine v_imulN hz dX8_layPay_155 ?_ | refine v_imul hz dX8_layPay_155 ?_
                        refine v_iload_n hz dX8_layPay_156 rfl ?_
                        first | with_reducible refine v_iaddN hz dX8_layPay_157 ?_ | refine v_iadd hz dX8_layPay_157 ?_
                        refine v_callVi hz lX8_150 (cX8_costOf_ok _ _ _ _ _ _ A hm (8 * s1 + i) _ w (by omega) (g1.2.2.2 i (by omega)).1.2.1 (g1.2.2.2 i (by omega)).1.2.2.1 gw) (by assumption) rfl rfl (Nat.le_of_ble_eq_true rfl) (by decide) ⟨Nat.zero_le _, Nat.zero_le _⟩ dX8_layPay_158 (fun r I1 h158 => ?_)
                        obtain ⟨rfl, rfl⟩ := h158
                        have b4 := cst_le (L := S.2.1 i) hw2
                        refine v_aload_n hz dX8_layPay_161 rfl ?_
                        refine v_getR hz fX8_38 (by assumption) (by assumption) dX8_layPay_162 ?_
                        refine v_bi (v := nI 9) hz dX8_layPay_165 (by decide) ?_
                        refine v_iload_n hz dX8_layPay_167 rfl ?_
                        refine v_ic (v := nI 1) hz dX8_layPay_168 (by decide) ?_
                        first | with_reducible refine v_iaddN hz dX8_layPay_169 ?_ | refine v_iadd hz dX8_layPay_169 ?_
                        first | with_reducible refine v_imulN hz dX8_layPay_170 ?_ | refine v_imul hz dX8_layPay_170 ?_
                        refine v_iload hz dX8_layPay_171 rfl ?_
                        first | with_reducible refine v_iaddN hz dX8_layPay_173 ?_ | refine v_iadd hz dX8_layPay_173 ?_
                        refine v_ialdN hz (by assumption) (by assumption) (by omega) (by decide) dX8_layPay_174 ?_
                        refine v_top (y := nI (pay w S T (i + 1) q)) (hP (i + 1) q (by omega) (by omega) (by omega)) ?_
                        have b5 := pay_le hw2 hS hT (i + 1) q
                        first | with_reducible refine v_iaddN hz dX8_layPay_175 ?_ | refine v_iadd hz dX8_layPay_175 ?_
                        refine v_callSi hz lX8_133 (cX8_least_ok _ _ _ _ _ _ _ _) rfl rfl (Nat.le_of_ble_eq_true rfl) (by decide) ⟨Nat.zero_le _, Nat.zero_le _⟩ dX8_layPay_176 (fun r I1 h176 => ?_)
                        obtain ⟨rfl, rfl⟩ := h176
                        refine v_top (nI_min (by omega) (by omega)) ?_
                        refine v_goto hz 184 dX8_layPay_179 (by decide) ?_
                        refine v_istore hz dX8_layPay_184 (by decide) rfl ?_
                        refine v_iload hz dX8_layPay_186 rfl ?_
                        refine v_aload_n hz dX8_layPay_188 rfl ?_
                        refine v_getR hz fX8_13 (by assumption) (by assumption) dX8_layPay_189 ?_
                        refine v_iload_n hz dX8_layPay_192 rfl ?_
                        refine v_ialdN hz (by assumption) (by assumption) (by omega) (by decide) dX8_layPay_193 ?_
                        refine v_top m2 ?_
                        first | with_reducible refine v_icmp_geN hz 231 (by omega) (by omega) dX8_layPay_194 (by decide) (fun c194 => ?_) (fun c194 => ?_) | refine v_icmp_ge hz 231 dX8_layPay_194 (by decide) (fun c194 => ?_) (fun c194 => ?_)
                        · first
                          | (exfalso; omega)
                          | (refine v_iload hz dX8_layPay_231 rfl ?_
                             refine v_istore hz dX8_layPay_233 (by decide) rfl ?_
                             refine v_aload_n hz dX8_layPay_235 rfl ?_
                             refine v_getR hz fX8_38 (by assumption) (by assumption) dX8_layPay_236 ?_
                             refine v_bi (v := nI 9) hz dX8_layPay_239 (by decide) ?_
                             refine v_iload_n hz dX8_layPay_241 rfl ?_
                             first | with_reducible refine v_imulN hz dX8_layPay_242 ?_ | refine v_imul hz dX8_layPay_242 ?_
                             refine v_iload hz dX8_layPay_243 rfl ?_
                             first | with_reducible refine v_iaddN hz dX8_layPay_245 ?_ | refine v_iadd hz dX8_layPay_245 ?_
                             refine v_iload hz dX8_layPay_246 rfl ?_
                             refine v_iastN hz (by assumption) (by assumption) (by omega) (by decide) dX8_layPay_248 ?_
                             refine v_iincE hz dX8_layPay_249 rfl (ip_dec q) (by decide) rfl ?_
                             refine v_goto hz 19 dX8_layPay_252 (by decide) ?_
                             exact v_sub (ih _ (by omega) (hC.put (by decide)) (hP.put hT (by omega) (by first | exact pv_nm (by omega) (by omega) | exact pv_nj hw2 hS hT (by omega) (by omega) | exact pv_im hw2 hS hT (by omega) (by omega) | exact pv_ij hw2 hS hT (by omega) (by omega) li lj)) (by first | exact hB.keep (u2_ne (hm.ne 17 16 (by decide) (by decide) (by decide))) | exact (hB.skip (by omega)).keep (u2_ne (hm.ne 17 16 (by decide) (by decide) (by decide))))) ⟨rfl, rfl, rfl, rfl, rfl, trivial⟩)
                        · first
                          | (exfalso; omega)
                          | (refine v_iload hz dX8_layPay_197 rfl ?_
                             refine v_aload_n hz dX8_layPay_199 rfl ?_
                             refine v_bi (v := nI 8) hz dX8_layPay_200 (by decide) ?_
                             refine v_iload_n hz dX8_layPay_202 rfl ?_
                             first | with_reducible refine v_imulN hz dX8_layPay_203 ?_ | refine v_imul hz dX8_layPay_203 ?_
                             refine v_iload hz dX8_layPay_204 rfl ?_
                             first | with_reducible refine v_iaddN hz dX8_layPay_206 ?_ | refine v_iadd hz dX8_layPay_206 ?_
                             refine v_callVi hz lX8_150 (cX8_costOf_ok _ _ _ _ _ _ A hm (8 * s2 + q) _ w (by omega) (g2.2.2.2 q (by omega)).1.2.1 (g2.2.2.2 q (by omega)).1.2.2.1 gw) (by assumption) rfl rfl (Nat.le_of_ble_eq_true rfl) (by decide) ⟨Nat.zero_le _, Nat.zero_le _⟩ dX8_layPay_207 (fun r I1 h207 => ?_)
                             obtain ⟨rfl, rfl⟩ := h207
                             have b6 := cst_le (L := T.2.1 q) hw2
                             refine v_aload_n hz dX8_layPay_210 rfl ?_
                             refine v_getR hz fX8_38 (by assumption) (by assumption) dX8_layPay_211 ?_
                             refine v_bi (v := nI 9) hz dX8_layPay_214 (by decide) ?_
                             refine v_iload_n hz dX8_layPay_216 rfl ?_
                             first | with_reducible refine v_imulN hz dX8_layPay_217 ?_ | refine v_imul hz dX8_layPay_217 ?_
                             refine v_iload hz dX8_layPay_218 rfl ?_
                             first | with_reducible refine v_iaddN hz dX8_layPay_220 ?_ | refine v_iadd hz dX8_layPay_220 ?_
                             refine v_ic (v := nI 1) hz dX8_layPay_221 (by decide) ?_
                             first | with_reducible refine v_iaddN hz dX8_layPay_222 ?_ | refine v_iadd hz dX8_layPay_222 ?_
                             refine v_ialdN hz (by assumption) (by assumption) (by omega) (by decide) dX8_layPay_223 ?_
                             refine v_top (y := nI (pay w S T i (q + 1))) (hP i (q + 1) (by omega) (by omega) (by omega)) ?_
                             have b7 := pay_le hw2 hS hT i (q + 1)
                             first | with_reducible refine v_iaddN hz dX8_layPay_224 ?_ | refine v_iadd hz dX8_layPay_224 ?_
                             refine v_callSi hz lX8_133 (cX8_least_ok _ _ _ _ _ _ _ _) rfl rfl (Nat.le_of_ble_eq_true rfl) (by decide) ⟨Nat.zero_le _, Nat.zero_le _⟩ dX8_layPay_225 (fun r I1 h225 => ?_)
                             obtain ⟨rfl, rfl⟩ := h225
                             refine v_top (nI_min (by omega) (by omega)) ?_
                             refine v_goto hz 233 dX8_layPay_228 (by decide) ?_
                             refine v_istore hz dX8_layPay_233 (by decide) rfl ?_
                             refine v_aload_n hz dX8_layPay_235 rfl ?_
                             refine v_getR hz fX8_38 (by assumption) (by assumption) dX8_layPay_236 ?_
                             refine v_bi (v := nI 9) hz dX8_layPay_239 (by decide) ?_
                             refine v_iload_n hz dX8_layPay_241 rfl ?_
                             first | with_reducible refine v_imulN hz dX8_layPay_242 ?_ | refine v_imul hz dX8_layPay_242 ?_
                             refine v_iload hz dX8_layPay_243 rfl ?_
                             first | with_reducible refine v_iaddN hz dX8_layPay_245 ?_ | refine v_iadd hz dX8_layPay_245 ?_
                             refine v_iload hz dX8_layPay_246 rfl ?_
                             refine v_iastN hz (by assumption) (by assumption) (by omega) (by decide) dX8_layPay_248 ?_
                             refine v_iincE hz dX8_layPay_249 rfl (ip_dec q) (by decide) rfl ?_
                             refine v_goto hz 19 dX8_layPay_252 (by decide) ?_
                             exact v_sub (ih _ (by omega) (hC.put (by decide)) (hP.put hT (by omega) (by first | exact pv_nm (by omega) (by omega) | exact pv_nj hw2 hS hT (by omega) (by omega) | exact pv_im hw2 hS hT (by omega) (by omega) | exact pv_ij hw2 hS hT (by omega) (by omega) li lj)) (by first | exact hB.keep (u2_ne (hm.ne 17 16 (by decide) (by decide) (by decide))) | exact (hB.skip (by omega)).keep (u2_ne (hm.ne 17 16 (by decide) (by decide) (by decide))))) ⟨rfl, rfl, rfl, rfl, rfl, trivial⟩)))
              · first
                | (exfalso; omega)
                | (refine v_iload hz dX8_layPay_63 rfl ?_
                   refine v_aload_n hz dX8_layPay_65 rfl ?_
                   refine v_getR hz fX8_13 (by assumption) (by assumption) dX8_layPay_66 ?_
                   refine v_iload_n hz dX8_layPay_69 rfl ?_
                   refine v_ialdN hz (by assumption) (by assumption) (by omega) (by decide) dX8_layPay_70 ?_
                   refine v_top m2 ?_
                   first | with_reducible refine v_icmp_geN hz 139 (by omega) (by omega) dX8_layPay_71 (by decide) (fun c71 => ?_) (fun c71 => ?_) | refine v_icmp_ge hz 139 dX8_layPay_71 (by decide) (fun c71 => ?_) (fun c71 => ?_)
                   · first
                     | (exfalso; omega)
                     | (refine v_iload_n hz dX8_layPay_139 rfl ?_
                        refine v_aload_n hz dX8_layPay_140 rfl ?_
                        refine v_getR hz fX8_13 (by assumption) (by assumption) dX8_layPay_141 ?_
                        refine v_iload_n hz dX8_layPay_144 rfl ?_
                        refine v_ialdN hz (by assumption) (by assumption) (by omega) (by decide) dX8_layPay_145 ?_
                        refine v_top m1 ?_
                        first | with_reducible refine v_icmp_geN hz 182 (by omega) (by omega) dX8_layPay_146 (by decide) (fun c146 => ?_) (fun c146 => ?_) | refine v_icmp_ge hz 182 dX8_layPay_146 (by decide) (fun c146 => ?_) (fun c146 => ?_)
                        · first
                          | (exfalso; omega)
                          | (refine v_iload hz dX8_layPay_182 rfl ?_
                             refine v_istore hz dX8_layPay_184 (by decide) rfl ?_
                             refine v_iload hz dX8_layPay_186 rfl ?_
                             refine v_aload_n hz dX8_layPay_188 rfl ?_
                             refine v_getR hz fX8_13 (by assumption) (by assumption) dX8_layPay_189 ?_
                             refine v_iload_n hz dX8_layPay_192 rfl ?_
                             refine v_ialdN hz (by assumption) (by assumption) (by omega) (by decide) dX8_layPay_193 ?_
                             refine v_top m2 ?_
                             first | with_reducible refine v_icmp_geN hz 231 (by omega) (by omega) dX8_layPay_194 (by decide) (fun c194 => ?_) (fun c194 => ?_) | refine v_icmp_ge hz 231 dX8_layPay_194 (by decide) (fun c194 => ?_) (fun c194 => ?_)
                             · first
                               | (exfalso; omega)
                               | (refine v_iload hz dX8_layPay_231 rfl ?_
                                  refine v_istore hz dX8_layPay_233 (by decide) rfl ?_
                                  refine v_aload_n hz dX8_layPay_235 rfl ?_
                                  refine v_getR hz fX8_38 (by assumption) (by assumption) dX8_layPay_236 ?_
                                  refine v_bi (v := nI 9) hz dX8_layPay_239 (by decide) ?_
                                  refine v_iload_n hz dX8_layPay_241 rfl ?_
                                  first | with_reducible refine v_imulN hz dX8_layPay_242 ?_ | refine v_imul hz dX8_layPay_242 ?_
                                  refine v_iload hz dX8_layPay_243 rfl ?_
                                  first | with_reducible refine v_iaddN hz dX8_layPay_245 ?_ | refine v_iadd hz dX8_layPay_245 ?_
                                  refine v_iload hz dX8_layPay_246 rfl ?_
                                  refine v_iastN hz (by assumption) (by assumption) (by omega) (by decide) dX8_layPay_248 ?_
                                  refine v_iincE hz dX8_layPay_249 rfl (ip_dec q) (by decide) rfl ?_
                                  refine v_goto hz 19 dX8_layPay_252 (by decide) ?_
                                  exact v_sub (ih _ (by omega) (hC.put (by decide)) (hP.put hT (by omega) (by first | exact pv_nm (by omega) (by omega) | exact pv_nj hw2 hS hT (by omega) (by omega) | exact pv_im hw2 hS hT (by omega) (by omega) | exact pv_ij hw2 hS hT (by omega) (by omega) li lj)) (by first | exact hB.keep (u2_ne (hm.ne 17 16 (by decide) (by decide) (by decide))) | exact (hB.skip (by omega)).keep (u2_ne (hm.ne 17 16 (by decide) (by decide) (by decide))))) ⟨rfl, rfl, rfl, rfl, rfl, trivial⟩)
                             · first
                               | (exfalso; omega)
                               | (refine v_iload hz dX8_layPay_197 rfl ?_
                                  refine v_aload_n hz dX8_layPay_199 rfl ?_
                                  refine v_bi (v := nI 8) hz dX8_layPay_200 (by decide) ?_
                                  refine v_iload_n hz dX8_layPay_202 rfl ?_
                                  first | with_reducible refine v_imulN hz dX8_layPay_203 ?_ | refine v_imul hz dX8_layPay_203 ?_
                                  refine v_iload hz dX8_layPay_204 rfl ?_
                                  first | with_reducible refine v_iaddN hz dX8_layPay_206 ?_ | refine v_iadd hz dX8_layPay_206 ?_
                                  refine v_callVi hz lX8_150 (cX8_costOf_ok _ _ _ _ _ _ A hm (8 * s2 + q) _ w (by omega) (g2.2.2.2 q (by omega)).1.2.1 (g2.2.2.2 q (by omega)).1.2.2.1 gw) (by assumption) rfl rfl (Nat.le_of_ble_eq_true rfl) (by decide) ⟨Nat.zero_le _, Nat.zero_le _⟩ dX8_layPay_207 (fun r I1 h207 => ?_)
                                  obtain ⟨rfl, rfl⟩ := h207
                                  have b6 := cst_le (L := T.2.1 q) hw2
                                  refine v_aload_n hz dX8_layPay_210 rfl ?_
                                  refine v_getR hz fX8_38 (by assumption) (by assumption) dX8_layPay_211 ?_
                                  refine v_bi (v := nI 9) hz dX8_layPay_214 (by decide) ?_
                                  refine v_iload_n hz dX8_layPay_216 rfl ?_
                                  first | with_reducible refine v_imulN hz dX8_layPay_217 ?_ | refine v_imul hz dX8_layPay_217 ?_
                                  refine v_iload hz dX8_layPay_218 rfl ?_
                                  first | with_reducible refine v_iaddN hz dX8_layPay_220 ?_ | refine v_iadd hz dX8_layPay_220 ?_
                                  refine v_ic (v := nI 1) hz dX8_layPay_221 (by decide) ?_
                                  first | with_reducible refine v_iaddN hz dX8_layPay_222 ?_ | refine v_iadd hz dX8_layPay_222 ?_
                                  refine v_ialdN hz (by assumption) (by assumption) (by omega) (by decide) dX8_layPay_223 ?_
                                  refine v_top (y := nI (pay w S T i (q + 1))) (hP i (q + 1) (by omega) (by omega) (by omega)) ?_
                                  have b7 := pay_le hw2 hS hT i (q + 1)
                                  first | with_reducible refine v_iaddN hz dX8_layPay_224 ?_ | refine v_iadd hz dX8_layPay_224 ?_
                                  refine v_callSi hz lX8_133 (cX8_least_ok _ _ _ _ _ _ _ _) rfl rfl (Nat.le_of_ble_eq_true rfl) (by decide) ⟨Nat.zero_le _, Nat.zero_le _⟩ dX8_layPay_225 (fun r I1 h225 => ?_)
                                  obtain ⟨rfl, rfl⟩ := h225
                                  refine v_top (nI_min (by omega) (by omega)) ?_
                                  refine v_goto hz 233 dX8_layPay_228 (by decide) ?_
                                  refine v_istore hz dX8_layPay_233 (by decide) rfl ?_
                                  refine v_aload_n hz dX8_layPay_235 rfl ?_
                                  refine v_getR hz fX8_38 (by assumption) (by assumption) dX8_layPay_236 ?_
                                  refine v_bi (v := nI 9) hz dX8_layPay_239 (by decide) ?_
                                  refine v_iload_n hz dX8_layPay_241 rfl ?_
                                  first | with_reducible refine v_imulN hz dX8_layPay_242 ?_ | refine v_imul hz dX8_layPay_242 ?_
                                  refine v_iload hz dX8_layPay_243 rfl ?_
                                  first | with_reducible refine v_iaddN hz dX8_layPay_245 ?_ | refine v_iadd hz dX8_layPay_245 ?_
                                  refine v_iload hz dX8_layPay_246 rfl ?_
                                  refine v_iastN hz (by assumption) (by assumption) (by omega) (by decide) dX8_layPay_248 ?_
                                  refine v_iincE hz dX8_layPay_249 rfl (ip_dec q) (by decide) rfl ?_
                                  refine v_goto hz 19 dX8_layPay_252 (by decide) ?_
                                  exact v_sub (ih _ (by omega) (hC.put (by decide)) (hP.put hT (by omega) (by first | exact pv_nm (by omega) (by omega) | exact pv_nj hw2 hS hT (by omega) (by omega) | exact pv_im hw2 hS hT (by omega) (by omega) | exact pv_ij hw2 hS hT (by omega) (by omega) li lj)) (by first | exact hB.keep (u2_ne (hm.ne 17 16 (by decide) (by decide) (by decide))) | exact (hB.skip (by omega)).keep (u2_ne (hm.ne 17 16 (by decide) (by decide) (by decide))))) ⟨rfl, rfl, rfl, rfl, rfl, trivial⟩))
                        · first
                          | (exfalso; omega)
                          | (refine v_iload hz dX8_layPay_149 rfl ?_
                             refine v_aload_n hz dX8_layPay_151 rfl ?_
                             refine v_bi (v := nI 8) hz dX8_layPay_152 (by decide) ?_
                             refine v_iload_n hz dX8_layPay_154 rfl ?_
                             first | with_reducible refine v_imulN hz dX8_layPay_155 ?_ | refine v_imul hz dX8_layPay_155 ?_
                             refine v_iload_n hz dX8_layPay_156 rfl ?_
                             first | with_reducible refine v_iaddN hz dX8_layPay_157 ?_ | refine v_iadd hz dX8_layPay_157 ?_
                             refine v_callVi hz lX8_150 (cX8_costOf_ok _ _ _ _ _ _ A hm (8 * s1 + i) _ w (by omega) (g1.2.2.2 i (by omega)).1.2.1 (g1.2.2.2 i (by omega)).1.2.2.1 gw) (by assumption) rfl rfl (Nat.le_of_ble_eq_true rfl) (by decide) ⟨Nat.zero_le _, Nat.zero_le _⟩ dX8_layPay_158 (fun r I1 h158 => ?_)
                             obtain ⟨rfl, rfl⟩ := h158
                             have b4 := cst_le (L := S.2.1 i) hw2
                             refine v_aload_n hz dX8_layPay_161 rfl ?_
                             refine v_getR hz fX8_38 (by assumption) (by assumption) dX8_layPay_162 ?_
                             refine v_bi (v := nI 9) hz dX8_layPay_165 (by decide) ?_
                             refine v_iload_n hz dX8_layPay_167 rfl ?_
                             refine v_ic (v := nI 1) hz dX8_layPay_168 (by decide) ?_
                             first | with_reducible refine v_iaddN hz dX8_layPay_169 ?_ | refine v_iadd hz dX8_layPay_169 ?_
                             first | with_reducible refine v_imulN hz dX8_layPay_170 ?_ | refine v_imul hz dX8_layPay_170 ?_
                             refine v_iload hz dX8_layPay_171 rfl ?_
                             first | with_reducible refine v_iaddN hz dX8_layPay_173 ?_ | refine v_iadd hz dX8_layPay_173 ?_
                             refine v_ialdN hz (by assumption) (by assumption) (by omega) (by decide) dX8_layPay_174 ?_
                             refine v_top (y := nI (pay w S T (i + 1) q)) (hP (i + 1) q (by omega) (by omega) (by omega)) ?_
                             have b5 := pay_le hw2 hS hT (i + 1) q
                             first | with_reducible refine v_iaddN hz dX8_layPay_175 ?_ | refine v_iadd hz dX8_layPay_175 ?_
                             refine v_callSi hz lX8_133 (cX8_least_ok _ _ _ _ _ _ _ _) rfl rfl (Nat.le_of_ble_eq_true rfl) (by decide) ⟨Nat.zero_le _, Nat.zero_le _⟩ dX8_layPay_176 (fun r I1 h176 => ?_)
                             obtain ⟨rfl, rfl⟩ := h176
                             refine v_top (nI_min (by omega) (by omega)) ?_
                             refine v_goto hz 184 dX8_layPay_179 (by decide) ?_
                             refine v_istore hz dX8_layPay_184 (by decide) rfl ?_
                             refine v_iload hz dX8_layPay_186 rfl ?_
                             refine v_aload_n hz dX8_layPay_188 rfl ?_
                             refine v_getR hz fX8_13 (by assumption) (by assumption) dX8_layPay_189 ?_
                             refine v_iload_n hz dX8_layPay_192 rfl ?_
                             refine v_ialdN hz (by assumption) (by assumption) (by omega) (by decide) dX8_layPay_193 ?_
                             refine v_top m2 ?_
                             first | with_reducible refine v_icmp_geN hz 231 (by omega) (by omega) dX8_layPay_194 (by decide) (fun c194 => ?_) (fun c194 => ?_) | refine v_icmp_ge hz 231 dX8_layPay_194 (by decide) (fun c194 => ?_) (fun c194 => ?_)
                             · first
                               | (exfalso; omega)
                               | (refine v_iload hz dX8_layPay_231 rfl ?_
                                  refine v_istore hz dX8_layPay_233 (by decide) rfl ?_
                                  refine v_aload_n hz dX8_layPay_235 rfl ?_
                                  refine v_getR hz fX8_38 (by assumption) (by assumption) dX8_layPay_236 ?_
                                  refine v_bi (v := nI 9) hz dX8_layPay_239 (by decide) ?_
                                  refine v_iload_n hz dX8_layPay_241 rfl ?_
                                  first | with_reducible refine v_imulN hz dX8_layPay_242 ?_ | refine v_imul hz dX8_layPay_242 ?_
                                  refine v_iload hz dX8_layPay_243 rfl ?_
                                  first | with_reducible refine v_iaddN hz dX8_layPay_245 ?_ | refine v_iadd hz dX8_layPay_245 ?_
                                  refine v_iload hz dX8_layPay_246 rfl ?_
                                  refine v_iastN hz (by assumption) (by assumption) (by omega) (by decide) dX8_layPay_248 ?_
                                  refine v_iincE hz dX8_layPay_249 rfl (ip_dec q) (by decide) rfl ?_
                                  refine v_goto hz 19 dX8_layPay_252 (by decide) ?_
                                  exact v_sub (ih _ (by omega) (hC.put (by decide)) (hP.put hT (by omega) (by first | exact pv_nm (by omega) (by omega) | exact pv_nj hw2 hS hT (by omega) (by omega) | exact pv_im hw2 hS hT (by omega) (by omega) | exact pv_ij hw2 hS hT (by omega) (by omega) li lj)) (by first | exact hB.keep (u2_ne (hm.ne 17 16 (by decide) (by decide) (by decide))) | exact (hB.skip (by omega)).keep (u2_ne (hm.ne 17 16 (by decide) (by decide) (by decide))))) ⟨rfl, rfl, rfl, rfl, rfl, trivial⟩)
                             · first
                               | (exfalso; omega)
                               | (refine v_iload hz dX8_layPay_197 rfl ?_
                                  refine v_aload_n hz dX8_layPay_199 rfl ?_
                                  refine v_bi (v := nI 8) hz dX8_layPay_200 (by decide) ?_
                                  refine v_iload_n hz dX8_layPay_202 rfl ?_
                                  first | with_reducible refine v_imulN hz dX8_layPay_203 ?_ | refine v_imul hz dX8_layPay_203 ?_
                                  refine v_iload hz dX8_layPay_204 rfl ?_
                                  first | with_reducible refine v_iaddN hz dX8_layPay_206 ?_ | refine v_iadd hz dX8_layPay_206 ?_
                                  refine v_callVi hz lX8_150 (cX8_costOf_ok _ _ _ _ _ _ A hm (8 * s2 + q) _ w (by omega) (g2.2.2.2 q (by omega)).1.2.1 (g2.2.2.2 q (by omega)).1.2.2.1 gw) (by assumption) rfl rfl (Nat.le_of_ble_eq_true rfl) (by decide) ⟨Nat.zero_le _, Nat.zero_le _⟩ dX8_layPay_207 (fun r I1 h207 => ?_)
                                  obtain ⟨rfl, rfl⟩ := h207
                                  have b6 := cst_le (L := T.2.1 q) hw2
                                  refine v_aload_n hz dX8_layPay_210 rfl ?_
                                  refine v_getR hz fX8_38 (by assumption) (by assumption) dX8_layPay_211 ?_
                                  refine v_bi (v := nI 9) hz dX8_layPay_214 (by decide) ?_
                                  refine v_iload_n hz dX8_layPay_216 rfl ?_
                                  first | with_reducible refine v_imulN hz dX8_layPay_217 ?_ | refine v_imul hz dX8_layPay_217 ?_
                                  refine v_iload hz dX8_layPay_218 rfl ?_
                                  first | with_reducible refine v_iaddN hz dX8_layPay_220 ?_ | refine v_iadd hz dX8_layPay_220 ?_
                                  refine v_ic (v := nI 1) hz dX8_layPay_221 (by decide) ?_
                                  first | with_reducible refine v_iaddN hz dX8_layPay_222 ?_ | refine v_iadd hz dX8_layPay_222 ?_
                                  refine v_ialdN hz (by assumption) (by assumption) (by omega) (by decide) dX8_layPay_223 ?_
                                  refine v_top (y := nI (pay w S T i (q + 1))) (hP i (q + 1) (by omega) (by omega) (by omega)) ?_
                                  have b7 := pay_le hw2 hS hT i (q + 1)
                                  first | with_reducible refine v_iaddN hz dX8_layPay_224 ?_ | refine v_iadd hz dX8_layPay_224 ?_
                                  refine v_callSi hz lX8_133 (cX8_least_ok _ _ _ _ _ _ _ _) rfl rfl (Nat.le_of_ble_eq_true rfl) (by decide) ⟨Nat.zero_le _, Nat.zero_le _⟩ dX8_layPay_225 (fun r I1 h225 => ?_)
                                  obtain ⟨rfl, rfl⟩ := h225
                                  refine v_top (nI_min (by omega) (by omega)) ?_
                                  refine v_goto hz 233 dX8_layPay_228 (by decide) ?_
                                  refine v_istore hz dX8_layPay_233 (by decide) rfl ?_
                                  refine v_aload_n hz dX8_layPay_235 rfl ?_
                                  refine v_getR hz fX8_38 (by assumption) (by assumption) dX8_layPay_236 ?_
                                  refine v_bi (v := nI 9) hz dX8_layPay_239 (by decide) ?_
                                  refine v_iload_n hz dX8_layPay_241 rfl ?_
                                  first | with_reducible refine v_imulN hz dX8_layPay_242 ?_ | refine v_imul hz dX8_layPay_242 ?_
                                  refine v_iload hz dX8_layPay_243 rfl ?_
                                  first | with_reducible refine v_iaddN hz dX8_layPay_245 ?_ | refine v_iadd hz dX8_layPay_245 ?_
                                  refine v_iload hz dX8_layPay_246 rfl ?_
                                  refine v_iastN hz (by assumption) (by assumption) (by omega) (by decide) dX8_layPay_248 ?_
                                  refine v_iincE hz dX8_layPay_249 rfl (ip_dec q) (by decide) rfl ?_
                                  refine v_goto hz 19 dX8_layPay_252 (by decide) ?_
                                  exact v_sub (ih _ (by omega) (hC.put (by decide)) (hP.put hT (by omega) (by first | exact pv_nm (by omega) (by omega) | exact pv_nj hw2 hS hT (by omega) (by omega) | exact pv_im hw2 hS hT (by omega) (by omega) | exact pv_ij hw2 hS hT (by omega) (by omega) li lj)) (by first | exact hB.keep (u2_ne (hm.ne 17 16 (by decide) (by decide) (by decide))) | exact (hB.skip (by omega)).keep (u2_ne (hm.ne 17 16 (by decide) (by decide) (by decide))))) ⟨rfl, rfl, rfl, rfl, rfl, trivial⟩)))
                   · first
                     | (exfalso; omega)
                     | (refine v_aload_n hz dX8_layPay_74 rfl ?_
                        refine v_getR hz fX8_41 (by assumption) (by assumption) dX8_layPay_75 ?_
                        refine v_bi (v := nI 8) hz dX8_layPay_78 (by decide) ?_
                        refine v_iload_n hz dX8_layPay_80 rfl ?_
                        first | with_reducible refine v_imulN hz dX8_layPay_81 ?_ | refine v_imul hz dX8_layPay_81 ?_
                        refine v_iload hz dX8_layPay_82 rfl ?_
                        first | with_reducible refine v_iaddN hz dX8_layPay_84 ?_ | refine v_iadd hz dX8_layPay_84 ?_
                        refine v_aload_n hz dX8_layPay_85 rfl ?_
                        refine v_bi (v := nI 8) hz dX8_layPay_86 (by decide) ?_
                        refine v_iload_n hz dX8_layPay_88 rfl ?_
                        first | with_reducible refine v_imulN hz dX8_layPay_89 ?_ | refine v_imul hz dX8_layPay_89 ?_
                        refine v_iload_n hz dX8_layPay_90 rfl ?_
                        first | with_reducible refine v_iaddN hz dX8_layPay_91 ?_ | refine v_iadd hz dX8_layPay_91 ?_
                        refine v_bi (v := nI 8) hz dX8_layPay_92 (by decide) ?_
                        refine v_iload_n hz dX8_layPay_94 rfl ?_
                        first | with_reducible refine v_imulN hz dX8_layPay_95 ?_ | refine v_imul hz dX8_layPay_95 ?_
                        refine v_iload hz dX8_layPay_96 rfl ?_
                        first | with_reducible refine v_iaddN hz dX8_layPay_98 ?_ | refine v_iadd hz dX8_layPay_98 ?_
                        have li := (g1.2.2.2 i (by omega)).1.2.1
                        have lj := (g2.2.2.2 q (by omega)).1.2.1
                        refine v_callVi hz lX8_147 (cX8_bothCost_ok _ _ _ _ _ _ A hm w (8 * s1 + i) (8 * s2 + q) _ _ _ _ _ _ gw (g1.2.2.2 i (by omega)).1 (g2.2.2.2 q (by omega)).1 (g1.2.2.2 i (by omega)).2 (g2.2.2.2 q (by omega)).2) (by assumption) rfl rfl (Nat.le_of_ble_eq_true rfl) (by decide) ⟨Nat.zero_le _, Nat.zero_le _⟩ dX8_layPay_99 (fun r I1 h99 => ?_)
                        obtain ⟨rfl, hF⟩ := h99
                        refine v_iastN hz (by assumption) (by assumption) (by omega) (by decide) dX8_layPay_102 ?_
                        refine v_gen (fun I2 hI2 => ?_)
                        have a7 : I1 (A 147) = I (A 147) := hm.fm hF 17 (by decide) (by decide)
                        have hB : payB I2 A w S T i q := by rw [hI2]; exact (hB.keep a7).put hT (by omega) rfl
                        have n6 : I2 (A 146) = I (A 146) := by rw [hI2, u2_ne (hm.ne 16 17 (by decide) (by decide) (by decide))]; exact hm.fm hF 16 (by decide) (by decide)
                        have hP : payP I2 A w S T i (q + 1) := hP.keep n6
                        have hC : Fm [145, 146, 147] A I0 I2 := by rw [hI2]; exact (hC.tr hF (fun _ h => h) (by decide)).put (by decide)
                        have e4 : I2 (A 134) = I0 (A 134) := hm.fm hC 4 (by decide) (by decide)
                        have e6 : I2 (A 136) = I0 (A 136) := hm.fm hC 6 (by decide) (by decide)
                        have e7 : I2 (A 137) = I0 (A 137) := hm.fm hC 7 (by decide) (by decide)
                        have e8 : I2 (A 138) = I0 (A 138) := hm.fm hC 8 (by decide) (by decide)
                        have g1 : msg I2 A s1 S := h1.keep e4 e6 e7 e8
                        have g2 : msg I2 A s2 T := h2.keep e4 e6 e7 e8
                        have gw : I2 (A 130) 9 = nI w := by rw [hm.fm hC 0 (by decide) (by decide)]; exact hw.1
                        have m1 := g1.2.2.1
                        have m2 := g2.2.2.1
                        have bl := bcn_le (N := 1048576) (S := S) (T := T) (i := i) (j := q) (by decide) li lj hw2
                        refine v_iload hz dX8_layPay_103 rfl ?_
                        refine v_aload_n hz dX8_layPay_105 rfl ?_
                        refine v_getR hz fX8_41 (by assumption) (by assumption) dX8_layPay_106 ?_
                        refine v_bi (v := nI 8) hz dX8_layPay_109 (by decide) ?_
                        refine v_iload_n hz dX8_layPay_111 rfl ?_
                        first | with_reducible refine v_imulN hz dX8_layPay_112 ?_ | refine v_imul hz dX8_layPay_112 ?_
                        refine v_iload hz dX8_layPay_113 rfl ?_
                        first | with_reducible refine v_iaddN hz dX8_layPay_115 ?_ | refine v_iadd hz dX8_layPay_115 ?_
                        refine v_ialdN hz (by assumption) (by assumption) (by omega) (by decide) dX8_layPay_116 ?_
                        refine v_top (y := nI (bcn 1048576 w S T i q)) (hB i q (by omega) (by omega) (by omega)) ?_
                        refine v_aload_n hz dX8_layPay_117 rfl ?_
                        refine v_getR hz fX8_38 (by assumption) (by assumption) dX8_layPay_118 ?_
                        refine v_bi (v := nI 9) hz dX8_layPay_121 (by decide) ?_
                        refine v_iload_n hz dX8_layPay_123 rfl ?_
                        refine v_ic (v := nI 1) hz dX8_layPay_124 (by decide) ?_
                        first | with_reducible refine v_iaddN hz dX8_layPay_125 ?_ | refine v_iadd hz dX8_layPay_125 ?_
                        first | with_reducible refine v_imulN hz dX8_layPay_126 ?_ | refine v_imul hz dX8_layPay_126 ?_
                        refine v_iload hz dX8_layPay_127 rfl ?_
                        first | with_reducible refine v_iaddN hz dX8_layPay_129 ?_ | refine v_iadd hz dX8_layPay_129 ?_
                        refine v_ic (v := nI 1) hz dX8_layPay_130 (by decide) ?_
                        first | with_reducible refine v_iaddN hz dX8_layPay_131 ?_ | refine v_iadd hz dX8_layPay_131 ?_
                        refine v_ialdN hz (by assumption) (by assumption) (by omega) (by decide) dX8_layPay_132 ?_
                        refine v_top (y := nI (pay w S T (i + 1) (q + 1))) (hP (i + 1) (q + 1) (by omega) (by omega) (by omega)) ?_
                        have b3 := pay_le hw2 hS hT (i + 1) (q + 1)
                        first | with_reducible refine v_iaddN hz dX8_layPay_133 ?_ | refine v_iadd hz dX8_layPay_133 ?_
                        refine v_callSi hz lX8_133 (cX8_least_ok _ _ _ _ _ _ _ _) rfl rfl (Nat.le_of_ble_eq_true rfl) (by decide) ⟨Nat.zero_le _, Nat.zero_le _⟩ dX8_layPay_134 (fun r I1 h134 => ?_)
                        obtain ⟨rfl, rfl⟩ := h134
                        refine v_top (nI_min (by omega) (by omega)) ?_
                        refine v_istore hz dX8_layPay_137 (by decide) rfl ?_
                        refine v_iload_n hz dX8_layPay_139 rfl ?_
                        refine v_aload_n hz dX8_layPay_140 rfl ?_
                        refine v_getR hz fX8_13 (by assumption) (by assumption) dX8_layPay_141 ?_
                        refine v_iload_n hz dX8_layPay_144 rfl ?_
                        refine v_ialdN hz (by assumption) (by assumption) (by omega) (by decide) dX8_layPay_145 ?_
                        refine v_top m1 ?_
                        first | with_reducible refine v_icmp_geN hz 182 (by omega) (by omega) dX8_layPay_146 (by decide) (fun c146 => ?_) (fun c146 => ?_) | refine v_icmp_ge hz 182 dX8_layPay_146 (by decide) (fun c146 => ?_) (fun c146 => ?_)
                        · first
                          | (exfalso; omega)
                          | (refine v_iload hz dX8_layPay_182 rfl ?_
                             refine v_istore hz dX8_layPay_184 (by decide) rfl ?_
                             refine v_iload hz dX8_layPay_186 rfl ?_
                             refine v_aload_n hz dX8_layPay_188 rfl ?_
                             refine v_getR hz fX8_13 (by assumption) (by assumption) dX8_layPay_189 ?_
                             refine v_iload_n hz dX8_layPay_192 rfl ?_
                             refine v_ialdN hz (by assumption) (by assumption) (by omega) (by decide) dX8_layPay_193 ?_
                             refine v_top m2 ?_
                             first | with_reducible refine v_icmp_geN hz 231 (by omega) (by omega) dX8_layPay_194 (by decide) (fun c194 => ?_) (fun c194 => ?_) | refine v_icmp_ge hz 231 dX8_layPay_194 (by decide) (fun c194 => ?_) (fun c194 => ?_)
                             · first
                               | (exfalso; omega)
                               | (refine v_iload hz dX8_layPay_231 rfl ?_
                                  refine v_istore hz dX8_layPay_233 (by decide) rfl ?_
                                  refine v_aload_n hz dX8_layPay_235 rfl ?_
                                  refine v_getR hz fX8_38 (by assumption) (by assumption) dX8_layPay_236 ?_
                                  refine v_bi (v := nI 9) hz dX8_layPay_239 (by decide) ?_
                                  refine v_iload_n hz dX8_layPay_241 rfl ?_
                                  first | with_reducible refine v_imulN hz dX8_layPay_242 ?_ | refine v_imul hz dX8_layPay_242 ?_
                                  refine v_iload hz dX8_layPay_243 rfl ?_
                                  first | with_reducible refine v_iaddN hz dX8_layPay_245 ?_ | refine v_iadd hz dX8_layPay_245 ?_
                                  refine v_iload hz dX8_layPay_246 rfl ?_
                                  refine v_iastN hz (by assumption) (by assumption) (by omega) (by decide) dX8_layPay_248 ?_
                                  refine v_iincE hz dX8_layPay_249 rfl (ip_dec q) (by decide) rfl ?_
                                  refine v_goto hz 19 dX8_layPay_252 (by decide) ?_
                                  exact v_sub (ih _ (by omega) (hC.put (by decide)) (hP.put hT (by omega) (by first | exact pv_nm (by omega) (by omega) | exact pv_nj hw2 hS hT (by omega) (by omega) | exact pv_im hw2 hS hT (by omega) (by omega) | exact pv_ij hw2 hS hT (by omega) (by omega) li lj)) (by first | exact hB.keep (u2_ne (hm.ne 17 16 (by decide) (by decide) (by decide))) | exact (hB.skip (by omega)).keep (u2_ne (hm.ne 17 16 (by decide) (by decide) (by decide))))) ⟨rfl, rfl, rfl, rfl, rfl, trivial⟩)
                             · first
                               | (exfalso; omega)
                               | (refine v_iload hz dX8_layPay_197 rfl ?_
                                  refine v_aload_n hz dX8_layPay_199 rfl ?_
                                  refine v_bi (v := nI 8) hz dX8_layPay_200 (by decide) ?_
                                  refine v_iload_n hz dX8_layPay_202 rfl ?_
                                  first | with_reducible refine v_imulN hz dX8_layPay_203 ?_ | refine v_imul hz dX8_layPay_203 ?_
                                  refine v_iload hz dX8_layPay_204 rfl ?_
                                  first | with_reducible refine v_iaddN hz dX8_layPay_206 ?_ | refine v_iadd hz dX8_layPay_206 ?_
                                  refine v_callVi hz lX8_150 (cX8_costOf_ok _ _ _ _ _ _ A hm (8 * s2 + q) _ w (by omega) (g2.2.2.2 q (by omega)).1.2.1 (g2.2.2.2 q (by omega)).1.2.2.1 gw) (by assumption) rfl rfl (Nat.le_of_ble_eq_true rfl) (by decide) ⟨Nat.zero_le _, Nat.zero_le _⟩ dX8_layPay_207 (fun r I1 h207 => ?_)
                                  obtain ⟨rfl, rfl⟩ := h207
                                  have b6 := cst_le (L := T.2.1 q) hw2
                                  refine v_aload_n hz dX8_layPay_210 rfl ?_
                                  refine v_getR hz fX8_38 (by assumption) (by assumption) dX8_layPay_211 ?_
                                  refine v_bi (v := nI 9) hz dX8_layPay_214 (by decide) ?_
                                  refine v_iload_n hz dX8_layPay_216 rfl ?_
                                  first | with_reducible refine v_imulN hz dX8_layPay_217 ?_ | refine v_imul hz dX8_layPay_217 ?_
                                  refine v_iload hz dX8_layPay_218 rfl ?_
                                  first | with_reducible refine v_iaddN hz dX8_layPay_220 ?_ | refine v_iadd hz dX8_layPay_220 ?_
                                  refine v_ic (v := nI 1) hz dX8_layPay_221 (by decide) ?_
                                  first | with_reducible refine v_iaddN hz dX8_layPay_222 ?_ | refine v_iadd hz dX8_layPay_222 ?_
                                  refine v_ialdN hz (by assumption) (by assumption) (by omega) (by decide) dX8_layPay_223 ?_
                                  refine v_top (y := nI (pay w S T i (q + 1))) (hP i (q + 1) (by omega) (by omega) (by omega)) ?_
                                  have b7 := pay_le hw2 hS hT i (q + 1)
                                  first | with_reducible refine v_iaddN hz dX8_layPay_224 ?_ | refine v_iadd hz dX8_layPay_224 ?_
                                  refine v_callSi hz lX8_133 (cX8_least_ok _ _ _ _ _ _ _ _) rfl rfl (Nat.le_of_ble_eq_true rfl) (by decide) ⟨Nat.zero_le _, Nat.zero_le _⟩ dX8_layPay_225 (fun r I1 h225 => ?_)
                                  obtain ⟨rfl, rfl⟩ := h225
                                  refine v_top (nI_min (by omega) (by omega)) ?_
                                  refine v_goto hz 233 dX8_layPay_228 (by decide) ?_
                                  refine v_istore hz dX8_layPay_233 (by decide) rfl ?_
                                  refine v_aload_n hz dX8_layPay_235 rfl ?_
                                  refine v_getR hz fX8_38 (by assumption) (by assumption) dX8_layPay_236 ?_
                                  refine v_bi (v := nI 9) hz dX8_layPay_239 (by decide) ?_
                                  refine v_iload_n hz dX8_layPay_241 rfl ?_
                                  first | with_reducible refine v_imulN hz dX8_layPay_242 ?_ | refine v_imul hz dX8_layPay_242 ?_
                                  refine v_iload hz dX8_layPay_243 rfl ?_
                                  first | with_reducible refine v_iaddN hz dX8_layPay_245 ?_ | refine v_iadd hz dX8_layPay_245 ?_
                                  refine v_iload hz dX8_layPay_246 rfl ?_
                                  refine v_iastN hz (by assumption) (by assumption) (by omega) (by decide) dX8_layPay_248 ?_
                                  refine v_iincE hz dX8_layPay_249 rfl (ip_dec q) (by decide) rfl ?_
                                  refine v_goto hz 19 dX8_layPay_252 (by decide) ?_
                                  exact v_sub (ih _ (by omega) (hC.put (by decide)) (hP.put hT (by omega) (by first | exact pv_nm (by omega) (by omega) | exact pv_nj hw2 hS hT (by omega) (by omega) | exact pv_im hw2 hS hT (by omega) (by omega) | exact pv_ij hw2 hS hT (by omega) (by omega) li lj)) (by first | exact hB.keep (u2_ne (hm.ne 17 16 (by decide) (by decide) (by decide))) | exact (hB.skip (by omega)).keep (u2_ne (hm.ne 17 16 (by decide) (by decide) (by decide))))) ⟨rfl, rfl, rfl, rfl, rfl, trivial⟩))
                        · first
                          | (exfalso; omega)
                          | (refine v_iload hz dX8_layPay_149 rfl ?_
                             refine v_aload_n hz dX8_layPay_151 rfl ?_
                             refine v_bi (v := nI 8) hz dX8_layPay_152 (by decide) ?_
                             refine v_iload_n hz dX8_layPay_154 rfl ?_
                             first | with_reducible refine v_imulN hz dX8_layPay_155 ?_ | refine v_imul hz dX8_layPay_155 ?_
                             refine v_iload_n hz dX8_layPay_156 rfl ?_
                             first | with_reducible refine v_iaddN hz dX8_layPay_157 ?_ | refine v_iadd hz dX8_layPay_157 ?_
                             refine v_callVi hz lX8_150 (cX8_costOf_ok _ _ _ _ _ _ A hm (8 * s1 + i) _ w (by omega) (g1.2.2.2 i (by omega)).1.2.1 (g1.2.2.2 i (by omega)).1.2.2.1 gw) (by assumption) rfl rfl (Nat.le_of_ble_eq_true rfl) (by decide) ⟨Nat.zero_le _, Nat.zero_le _⟩ dX8_layPay_158 (fun r I1 h158 => ?_)
                             obtain ⟨rfl, rfl⟩ := h158
                             have b4 := cst_le (L := S.2.1 i) hw2
                             refine v_aload_n hz dX8_layPay_161 rfl ?_
                             refine v_getR hz fX8_38 (by assumption) (by assumption) dX8_layPay_162 ?_
                             refine v_bi (v := nI 9) hz dX8_layPay_165 (by decide) ?_
                             refine v_iload_n hz dX8_layPay_167 rfl ?_
                             refine v_ic (v := nI 1) hz dX8_layPay_168 (by decide) ?_
                             first | with_reducible refine v_iaddN hz dX8_layPay_169 ?_ | refine v_iadd hz dX8_layPay_169 ?_
                             first | with_reducible refine v_imulN hz dX8_layPay_170 ?_ | refine v_imul hz dX8_layPay_170 ?_
                             refine v_iload hz dX8_layPay_171 rfl ?_
                             first | with_reducible refine v_iaddN hz dX8_layPay_173 ?_ | refine v_iadd hz dX8_layPay_173 ?_
                             refine v_ialdN hz (by assumption) (by assumption) (by omega) (by decide) dX8_layPay_174 ?_
                             refine v_top (y := nI (pay w S T (i + 1) q)) (hP (i + 1) q (by omega) (by omega) (by omega)) ?_
                             have b5 := pay_le hw2 hS hT (i + 1) q
                             first | with_reducible refine v_iaddN hz dX8_layPay_175 ?_ | refine v_iadd hz dX8_layPay_175 ?_
                             refine v_callSi hz lX8_133 (cX8_least_ok _ _ _ _ _ _ _ _) rfl rfl (Nat.le_of_ble_eq_true rfl) (by decide) ⟨Nat.zero_le _, Nat.zero_le _⟩ dX8_layPay_176 (fun r I1 h176 => ?_)
                             obtain ⟨rfl, rfl⟩ := h176
                             refine v_top (nI_min (by omega) (by omega)) ?_
                             refine v_goto hz 184 dX8_layPay_179 (by decide) ?_
                             refine v_istore hz dX8_layPay_184 (by decide) rfl ?_
                             refine v_iload hz dX8_layPay_186 rfl ?_
                             refine v_aload_n hz dX8_layPay_188 rfl ?_
                             refine v_getR hz fX8_13 (by assumption) (by assumption) dX8_layPay_189 ?_
                             refine v_iload_n hz dX8_layPay_192 rfl ?_
                             refine v_ialdN hz (by assumption) (by assumption) (by omega) (by decide) dX8_layPay_193 ?_
                             refine v_top m2 ?_
                             first | with_reducible refine v_icmp_geN hz 231 (by omega) (by omega) dX8_layPay_194 (by decide) (fun c194 => ?_) (fun c194 => ?_) | refine v_icmp_ge hz 231 dX8_layPay_194 (by decide) (fun c194 => ?_) (fun c194 => ?_)
                             · first
                               | (exfalso; omega)
                               | (refine v_iload hz dX8_layPay_231 rfl ?_
                                  refine v_istore hz dX8_layPay_233 (by decide) rfl ?_
                                  refine v_aload_n hz dX8_layPay_235 rfl ?_
                                  refine v_getR hz fX8_38 (by assumption) (by assumption) dX8_layPay_236 ?_
                                  refine v_bi (v := nI 9) hz dX8_layPay_239 (by decide) ?_
                                  refine v_iload_n hz dX8_layPay_241 rfl ?_
                                  first | with_reducible refine v_imulN hz dX8_layPay_242 ?_ | refine v_imul hz dX8_layPay_242 ?_
                                  refine v_iload hz dX8_layPay_243 rfl ?_
                                  first | with_reducible refine v_iaddN hz dX8_layPay_245 ?_ | refine v_iadd hz dX8_layPay_245 ?_
                                  refine v_iload hz dX8_layPay_246 rfl ?_
                                  refine v_iastN hz (by assumption) (by assumption) (by omega) (by decide) dX8_layPay_248 ?_
                                  refine v_iincE hz dX8_layPay_249 rfl (ip_dec q) (by decide) rfl ?_
                                  refine v_goto hz 19 dX8_layPay_252 (by decide) ?_
                                  exact v_sub (ih _ (by omega) (hC.put (by decide)) (hP.put hT (by omega) (by first | exact pv_nm (by omega) (by omega) | exact pv_nj hw2 hS hT (by omega) (by omega) | exact pv_im hw2 hS hT (by omega) (by omega) | exact pv_ij hw2 hS hT (by omega) (by omega) li lj)) (by first | exact hB.keep (u2_ne (hm.ne 17 16 (by decide) (by decide) (by decide))) | exact (hB.skip (by omega)).keep (u2_ne (hm.ne 17 16 (by decide) (by decide) (by decide))))) ⟨rfl, rfl, rfl, rfl, rfl, trivial⟩)
                             · first
                               | (exfalso; omega)
                               | (refine v_iload hz dX8_layPay_197 rfl ?_
                                  refine v_aload_n hz dX8_layPay_199 rfl ?_
                                  refine v_bi (v := nI 8) hz dX8_layPay_200 (by decide) ?_
                                  refine v_iload_n hz dX8_layPay_202 rfl ?_
                                  first | with_reducible refine v_imulN hz dX8_layPay_203 ?_ | refine v_imul hz dX8_layPay_203 ?_
                                  refine v_iload hz dX8_layPay_204 rfl ?_
                                  first | with_reducible refine v_iaddN hz dX8_layPay_206 ?_ | refine v_iadd hz dX8_layPay_206 ?_
                                  refine v_callVi hz lX8_150 (cX8_costOf_ok _ _ _ _ _ _ A hm (8 * s2 + q) _ w (by omega) (g2.2.2.2 q (by omega)).1.2.1 (g2.2.2.2 q (by omega)).1.2.2.1 gw) (by assumption) rfl rfl (Nat.le_of_ble_eq_true rfl) (by decide) ⟨Nat.zero_le _, Nat.zero_le _⟩ dX8_layPay_207 (fun r I1 h207 => ?_)
                                  obtain ⟨rfl, rfl⟩ := h207
                                  have b6 := cst_le (L := T.2.1 q) hw2
                                  refine v_aload_n hz dX8_layPay_210 rfl ?_
                                  refine v_getR hz fX8_38 (by assumption) (by assumption) dX8_layPay_211 ?_
                                  refine v_bi (v := nI 9) hz dX8_layPay_214 (by decide) ?_
                                  refine v_iload_n hz dX8_layPay_216 rfl ?_
                                  first | with_reducible refine v_imulN hz dX8_layPay_217 ?_ | refine v_imul hz dX8_layPay_217 ?_
                                  refine v_iload hz dX8_layPay_218 rfl ?_
                                  first | with_reducible refine v_iaddN hz dX8_layPay_220 ?_ | refine v_iadd hz dX8_layPay_220 ?_
                                  refine v_ic (v := nI 1) hz dX8_layPay_221 (by decide) ?_
                                  first | with_reducible refine v_iaddN hz dX8_layPay_222 ?_ | refine v_iadd hz dX8_layPay_222 ?_
                                  refine v_ialdN hz (by assumption) (by assumption) (by omega) (by decide) dX8_layPay_223 ?_
                                  refine v_top (y := nI (pay w S T i (q + 1))) (hP i (q + 1) (by omega) (by omega) (by omega)) ?_
                                  have b7 := pay_le hw2 hS hT i (q + 1)
                                  first | with_reducible refine v_iaddN hz dX8_layPay_224 ?_ | refine v_iadd hz dX8_layPay_224 ?_
                                  refine v_callSi hz lX8_133 (cX8_least_ok _ _ _ _ _ _ _ _) rfl rfl (Nat.le_of_ble_eq_true rfl) (by decide) ⟨Nat.zero_le _, Nat.zero_le _⟩ dX8_layPay_225 (fun r I1 h225 => ?_)
                                  obtain ⟨rfl, rfl⟩ := h225
                                  refine v_top (nI_min (by omega) (by omega)) ?_
                                  refine v_goto hz 233 dX8_layPay_228 (by decide) ?_
                                  refine v_istore hz dX8_layPay_233 (by decide) rfl ?_
                                  refine v_aload_n hz dX8_layPay_235 rfl ?_
                                  refine v_getR hz fX8_38 (by assumption) (by assumption) dX8_layPay_236 ?_
                                  refine v_bi (v := nI 9) hz dX8_layPay_239 (by decide) ?_
                                  refine v_iload_n hz dX8_layPay_241 rfl ?_
                                  first | with_reducible refine v_imulN hz dX8_layPay_242 ?_ | refine v_imul hz dX8_layPay_242 ?_
                                  refine v_iload hz dX8_layPay_243 rfl ?_
                                  first | with_reducible refine v_iaddN hz dX8_layPay_245 ?_ | refine v_iadd hz dX8_layPay_245 ?_
                                  refine v_iload hz dX8_layPay_246 rfl ?_
                                  refine v_iastN hz (by assumption) (by assumption) (by omega) (by decide) dX8_layPay_248 ?_
                                  refine v_iincE hz dX8_layPay_249 rfl (ip_dec q) (by decide) rfl ?_
                                  refine v_goto hz 19 dX8_layPay_252 (by decide) ?_
                                  exact v_sub (ih _ (by omega) (hC.put (by decide)) (hP.put hT (by omega) (by first | exact pv_nm (by omega) (by omega) | exact pv_nj hw2 hS hT (by omega) (by omega) | exact pv_im hw2 hS hT (by omega) (by omega) | exact pv_ij hw2 hS hT (by omega) (by omega) li lj)) (by first | exact hB.keep (u2_ne (hm.ne 17 16 (by decide) (by decide) (by decide))) | exact (hB.skip (by omega)).keep (u2_ne (hm.ne 17 16 (by decide) (by decide) (by decide))))) ⟨rfl, rfl, rfl, rfl, rfl, trivial⟩))))))
set_option maxHeartbeats 4000000 in
set_option maxRecDepth 100000 in
theorem lp_layPay_out {z : Zz} {κ : Kz} {R : Rz} {J : Jz} {A : Nat → Nat} (hz : Am z cX8_layPay RX8 6 4) (hm : LM κ R A) {I0 : Iz} {w s1 s2 : Nat} {S T : Sg} (hw : wt I0 A w) (h1 : msg I0 A s1 S) (h2 : msg I0 A s2 T) (K : ∀ I1, Fm [145, 146, 147] A I0 I1 → payP I1 A w S T 0 0 → payB I1 A w S T 0 0 → V z 6 0 0 261 [(0, .ref (A 130)), (1, .int (nI s1)), (2, .int (nI s2))] [] κ I1 R J) :
    ∀ (p : Nat) (I : Iz), p ≤ S.1 + 1 → Fm [145, 146, 147] A I0 I → payP I A w S T p 0 → payB I A w S T p 0 → V z 6 0 0 7 [(0, .ref (A 130)), (1, .int (nI s1)), (2, .int (nI s2)), (3, .int (ip p))] [] κ I R J := by
  have hk := hm.k
  have ho := hm.o
  have hR4 := hm.r4
  have hK4 := hm.k4
  have hN4 := hm.n4
  have hO4 := hm.o4
  have hR16 := hm.r16
  have hK16 := hm.k16
  have hN16 := hm.n16
  have hO16 := hm.o16
  have hR17 := hm.r17
  have hK17 := hm.k17
  have hN17 := hm.n17
  have hO17 := hm.o17
  intro p
  induction p with
  | zero =>
    intro I hp hC hP hB
    refine v_iload_n hz dX8_layPay_7 rfl ?_
    refine v_if_lt hz 261 dX8_layPay_8 (by decide) (fun c21 => ?_) (fun c21 => ?_)
    · exact v_sub (K I hC hP hB) ⟨rfl, rfl, rfl, trivial⟩
    · exact absurd (by decide : ip 0 < 0) c21
  | succ p ih =>
  intro I hp hC hP hB
  have hw0 : I (A 130) = I0 (A 130) := hm.fm hC 0 (by decide) (by decide)
  have e4 : I (A 134) = I0 (A 134) := hm.fm hC 4 (by decide) (by decide)
  have e6 : I (A 136) = I0 (A 136) := hm.fm hC 6 (by decide) (by decide)
  have e7 : I (A 137) = I0 (A 137) := hm.fm hC 7 (by decide) (by decide)
  have e8 : I (A 138) = I0 (A 138) := hm.fm hC 8 (by decide) (by decide)
  have g1 : msg I A s1 S := h1.keep e4 e6 e7 e8
  have g2 : msg I A s2 T := h2.keep e4 e6 e7 e8
  have gw : I (A 130) 9 = nI w := by rw [hw0]; exact hw.1
  have hs1 := h1.1
  have hs2 := h2.1
  have hS := h1.2.1
  have hT := h2.2.1
  have hw2 := hw.2.2
  have m1 := g1.2.2.1
  have m2 := g2.2.2.1
  show V z 6 0 0 7 [(0, .ref (A 130)), (1, .int (nI s1)), (2, .int (nI s2)), (3, .int (nI p))] [] κ I R J
  refine v_iload_n hz dX8_layPay_7 rfl ?_
  refine v_if_lt hz 261 dX8_layPay_8 (by decide) (fun c8 => ?_) (fun c8 => ?_)
  · exact absurd c8 (nI_pos (by omega))
  · refine v_aload_n hz dX8_layPay_11 rfl ?_
    refine v_getR hz fX8_13 (by assumption) (by assumption) dX8_layPay_12 ?_
    refine v_iload_n hz dX8_layPay_15 rfl ?_
    refine v_ialdN hz (by assumption) (by assumption) (by omega) (by decide) dX8_layPay_16 ?_
    refine v_top m2 ?_
    refine v_istore hz dX8_layPay_17 (by decide) rfl ?_
    refine v_sub (lp_layPay_in hz hm hw h1 h2 p (by omega) (fun I1 hC1 hP1 hB1 => ?_) (T.1 + 1) I (by omega) hC (fun i' j' a1 a2 a3 => hP i' j' a1 a2 (by omega)) (fun i' j' a1 a2 a3 => hB i' j' a1 a2 (by omega))) ⟨rfl, rfl, rfl, rfl, rfl, trivial⟩
    refine v_iincE hz dX8_layPay_255 rfl (ip_dec p) (by decide) rfl ?_
    refine v_goto hz 7 dX8_layPay_258 (by decide) ?_
    exact v_sub (ih I1 (by omega) hC1 hP1 hB1) ⟨rfl, rfl, rfl, rfl, trivial⟩
set_option maxHeartbeats 4000000 in
set_option maxRecDepth 100000 in
theorem cX8_layPay_ok (l : Launch) (g : Gz) (κ : Kz) (I : Iz) (R : Rz) (J : Jz) (A : Nat → Nat) (hm : LM κ R A) (w s1 s2 : Nat) (S T : Sg) (hw : wt I A w) (h1 : msg I A s1 S) (h2 : msg I A s2 T) : Ct l mX8_layPay 0 0 g [.ref (A 130), .int (nI s1), .int (nI s2)] κ I R J (Sv κ R J (fun I1 => Fm [145, 146, 147] A I I1 ∧ payP I1 A w S T 0 0 ∧ payB I1 A w S T 0 0)) := by
  refine ct_of (by decide) (Nat.le_of_ble_eq_true rfl) ?_
  intro z hz hr hrc hrs
  have hz : Am z cX8_layPay RX8 6 4 := hz
  have hr : Rt z yX8_layPay none 0 0 _ := hr
  show V z 6 0 0 0 [(0, .ref (A 130)), (1, .int (nI s1)), (2, .int (nI s2))] [] κ I R J
  have hk := hm.k
  have ho := hm.o
  have hR4 := hm.r4
  have hK4 := hm.k4
  have hN4 := hm.n4
  have hO4 := hm.o4
  have hR16 := hm.r16
  have hK16 := hm.k16
  have hN16 := hm.n16
  have hO16 := hm.o16
  have hR17 := hm.r17
  have hK17 := hm.k17
  have hN17 := hm.n17
  have hO17 := hm.o17
  have hs1 := h1.1
  have hs2 := h2.1
  have hS := h1.2.1
  have hT := h2.2.1
  refine v_aload_n hz dX8_layPay_0 rfl ?_
  refine v_getR hz fX8_13 (by assumption) (by assumption) dX8_layPay_1 ?_
  refine v_iload_n hz dX8_layPay_4 rfl ?_
  refine v_ialdN hz (by assumption) (by assumption) (by omega) (by decide) dX8_layPay_5 ?_
  refine v_top h1.2.2.1 ?_
  refine v_istore_n hz dX8_layPay_6 (by decide) rfl ?_
  refine v_sub (lp_layPay_out hz hm hw h1 h2 (fun I1 hC1 hP1 hB1 => ?_) (S.1 + 1) I (by omega) Fm.rf (fun i' j' a1 a2 a3 => absurd a3 (by omega)) (fun i' j' a1 a2 a3 => absurd a3 (by omega))) ⟨rfl, rfl, rfl, rfl, trivial⟩
  exact v_vret hz hr dX8_layPay_261 ⟨hC1, hP1, hB1⟩
set_option maxHeartbeats 4000000 in
set_option maxRecDepth 100000 in
theorem cX8_farOf_ok (l : Launch) (g : Gz) (κ : Kz) (I : Iz) (R : Rz) (J : Jz) (A : Nat → Nat) (hm : LM κ R A) (w s1 s2 : Nat) (S T : Sg) (hw : wt I A w) (h1 : msg I A s1 S) (h2 : msg I A s2 T) : Ct l mX8_farOf 0 0 g [.ref (A 130), .int (nI s1), .int (nI s2)] κ I R J (Si κ R J (fun r I1 => r = nI (pay w S T 0 0) ∧ Fm [145, 146, 147] A I I1)) := by
  refine ct_of (by decide) (Nat.le_of_ble_eq_true rfl) ?_
  intro z hz hr hrc hrs
  have hz : Am z cX8_farOf RX8 3 5 := hz
  have hr : Rt z yX8_farOf (some .int) 0 0 _ := hr
  show V z 3 0 0 0 [(0, .ref (A 130)), (1, .int (nI s1)), (2, .int (nI s2))] [] κ I R J
  have hk := hm.k
  have ho := hm.o
  have hR16 := hm.r16
  have hK16 := hm.k16
  have hN16 := hm.n16
  have hO16 := hm.o16
  refine v_aload_n hz dX8_farOf_0 rfl ?_
  refine v_iload_n hz dX8_farOf_1 rfl ?_
  refine v_iload_n hz dX8_farOf_2 rfl ?_
  refine v_callVv hz lX8_157 (cX8_layPay_ok _ _ _ _ _ _ A hm w s1 s2 S T hw h1 h2) (by assumption) rfl rfl (Nat.le_of_ble_eq_true rfl) (by decide) ⟨Nat.zero_le _, Nat.zero_le _⟩ dX8_farOf_3 (fun I1 h3 => ?_)
  obtain ⟨hC, hP, hB⟩ := h3
  refine v_aload_n hz dX8_farOf_6 rfl ?_
  refine v_getR hz fX8_38 (by assumption) (by assumption) dX8_farOf_7 ?_
  refine v_ic (v := nI 0) hz dX8_farOf_10 (by decide) ?_
  refine v_ialdN hz (by assumption) (by assumption) (by omega) (by decide) dX8_farOf_11 ?_
  refine v_top (y := nI (pay w S T 0 0)) (hP 0 0 (by omega) (by omega) (by omega)) ?_
  exact v_iret hz hr dX8_farOf_12 ⟨rfl, hC⟩
