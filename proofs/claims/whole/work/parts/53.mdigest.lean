/-! ===== the reference: the digest ===== -/
def Sj (κ : Kz) (R : Rz) (p : Iz → Jz → Prop) : Postz := fun v κ' I' R' J' => κ' = κ ∧ R' = R ∧ v = none ∧ p I' J'
def Sk (κ : Kz) (R : Rz) (p : Int64 → Iz → Jz → Prop) : Postz := fun v κ' I' R' J' => κ' = κ ∧ R' = R ∧ ∃ r, v = some (.long r) ∧ p r I' J'
theorem v_callVj {z : Zz} {cc : ByteArray} {own : String} {nL d k n pc : Nat} {lv : List (Nat × Value)} {st : List Value} {κ : Kz} {I : Iz} {R : Rz} {J : Jz} {p : Iz → Jz → Prop} (hz : Am z cc own nL d) {idx c na : Nat} {M : Mz} (ml : MLv own idx M c na) {b : Nat} {As rest : List Value} (hc : Ct (zl z) M 0 0 (zg z) (.ref b :: As) κ I R J (Sj κ R p)) (hK : κ.1 b = c) (hna : As.length = na)
    (hst : st = As.reverse ++ .ref b :: rest) (hrs : (rest.map fun v => v.category).sum ≤ 8) (hd : M.2.2.2.2 + 1 ≤ d ∧ M.2.2.1 ≤ 21) (hroom : k ≤ (zR z).cells ∧ n ≤ (zR z).slots) (dd : decode cc pc = .ok (.invokevirtual idx, 3))
    (h : ∀ I1 J1, p I1 J1 → V z nL k n (pc + 3) lv rest κ I1 R J1) : V z nL k n pc lv st κ I R J :=
  v_callV0 hz ml hc hK hna hst hrs hd hroom dd (fun v κ1 I1 R1 J1 hp => by
    obtain ⟨rfl, rfl, rfl, hp⟩ := hp
    exact h I1 J1 hp)
theorem u2_u2 {α : Type} {f : Nat → Nat → α} {a k : Nat} {x y : α} : u2 (u2 f a k x) a k y = u2 f a k y := by
  funext b j
  by_cases e : b = a
  · subst e
    by_cases e2 : j = k
    · subst e2; rw [u2_eq, u2_eq]
    · rw [u2_at e2, u2_at e2, u2_at e2]
  · rw [u2_ne e, u2_ne e, u2_ne e]
/-- numbers mixed into another -/
def mxs (h : Int64) (f : Nat → Int32) : Nat → Int64
  | 0 => h
  | k + 1 => 31 * mxs h f k + (f k).toInt64
theorem mxs_c {h : Int64} {f g : Nat → Int32} : ∀ {k : Nat}, (∀ i, i < k → f i = g i) → mxs h f k = mxs h g k
  | 0, _ => rfl
  | k + 1, e => by
    show 31 * mxs h f k + (f k).toInt64 = 31 * mxs h g k + (g k).toInt64
    rw [mxs_c (fun i hi => e i (by omega)), e k (by omega)]
def dgS (ks : Nat → Sg) (tm : Nat → Int32) (w : Nat) (k : Nat) : Int64 := mxs 1637 (fun k => segT (ks (k / 6)) (tm (k / 6)) w (k % 6)) k
noncomputable def dgI (ks : Nat → Sg) (w : Nat) (h : Int64) (a : Nat) : Nat → Int64
  | 0 => h
  | d + 1 => mxs (dgI ks w h a d) (fun v => twT w (ks a) (ks (a + 1 + d)) v) 5
noncomputable def dgP (ks : Nat → Sg) (w kn : Nat) (h : Int64) : Nat → Int64
  | 0 => h
  | a + 1 => dgI ks w (dgP ks w kn h a) a (kn - (a + 1))
noncomputable def dgN (ks : Nat → Sg) (T : Sg) (w bd : Nat) (h : Int64) : Nat → Int64
  | 0 => h
  | a + 1 => mxs (dgN ks T w bd h a) (fun v => nrT w bd (ks a) T v) 10
noncomputable def dgQ (kn : Nat) (ks : Nat → Sg) (T : Sg) (w bd : Nat) (h : Int64) : Int64 := mxs (dgN ks T w bd (mxs h (fun v => quT w bd ks T kn v) 10) kn) (fun k => nI ((rkF w bd ks T kn).2 k)) (rkF w bd ks T kn).1
noncomputable def digF (pg : Nat → Nat) (n kn : Nat) (ks : Nat → Sg) (tm : Nat → Int32) (T : Sg) (qa w bd : Nat) (te td : Int32) : Int64 := mxs (mxs (if 0 < qa then dgQ kn ks T w bd (dgP ks w kn (dgS ks tm w (6 * kn)) kn) else dgP ks w kn (dgS ks tm w (6 * kn)) kn) (fun k => nI (pg k)) n) (fun v => cntR n kn ks qa w bd te td (nI v)) 8
set_option maxHeartbeats 4000000 in
set_option maxRecDepth 100000 in
theorem lp_gA1 {z : Zz} {κ : Kz} {I0 : Iz} {R : Rz} {J : Jz} {A : Nat → Nat} (hm : LM κ R A) (hz : Am z cX8_gramsAll RX8 3 3) (K : ∀ I, (∀ c, c ≠ A 159 → I c = I0 c) → (∀ x, x < 784 → I (A 159) x = 0) → V z 3 0 0 22 [(0, .ref (A 130))] [] κ I R J) :
    ∀ (m i : Nat) (I : Iz), i ≤ 784 → 785 ≤ i + m → (∀ c, c ≠ A 159 → I c = I0 c) → (∀ x, x < i → I (A 159) x = 0) → V z 3 0 0 2 [(0, .ref (A 130)), (1, .int (nI i))] [] κ I R J := by
  have hk := hm.k
  have ho := hm.o
  have hR23 := hm.r23
  have hK23 := hm.k23
  have hN23 := hm.n23
  have hO23 := hm.o23
  have hR29 := hm.r29
  have hK29 := hm.k29
  have hN29 := hm.n29
  have hO29 := hm.o29
  intro m
  induction m with
  | zero => intro i I hi hm9; exact absurd hm9 (by omega)
  | succ m ih =>
  intro i I hi hm9 hF hz0
  refine v_iload_n hz dX8_gramsAll_2 rfl ?_
  refine v_si (v := nI 784) hz dX8_gramsAll_3 (by decide) ?_
  first | with_reducible refine v_icmp_geN hz 22 (by omega) (by omega) dX8_gramsAll_6 (by decide) (fun c6 => ?_) (fun c6 => ?_) | refine v_icmp_ge hz 22 dX8_gramsAll_6 (by decide) (fun c6 => ?_) (fun c6 => ?_)
  · exact v_sub (K _ hF (fun x hx => hz0 x (by omega))) ⟨rfl, trivial⟩
  · refine v_aload_n hz dX8_gramsAll_9 rfl ?_
    refine v_getR hz fX8_72 (by assumption) (by assumption) dX8_gramsAll_10 ?_
    refine v_iload_n hz dX8_gramsAll_13 rfl ?_
    refine v_ic (v := nI 0) hz dX8_gramsAll_14 (by decide) ?_
    refine v_zastN hz (by assumption) (by assumption) (by omega) (by decide) (by first | exact Or.inl rfl | exact Or.inr rfl | exact bz_01) dX8_gramsAll_15 ?_
    first | refine v_iincN hz 1 dX8_gramsAll_16 (by decide) rfl (by decide) rfl ?_ | refine v_iinc hz dX8_gramsAll_16 rfl (by decide) rfl ?_
    refine v_goto hz 2 dX8_gramsAll_19 (by decide) ?_
    exact v_sub (ih (i + 1) _ (by omega) (by omega) (fun a ha => by rw [u2_ne ha]; exact hF a ha) (fun x hx => by
      by_cases e : x = i
      · rw [e, u2_eq]; rfl
      · rw [u2_at e]; exact hz0 x (by omega))) ⟨rfl, rfl, trivial⟩
set_option maxHeartbeats 4000000 in
set_option maxRecDepth 100000 in
theorem lp_gA3 {z : Zz} {κ : Kz} {I0 : Iz} {R : Rz} {J : Jz} {A : Nat → Nat} (hm : LM κ R A) (hz : Am z cX8_gramsAll RX8 3 3) {a : Nat} {ks : Nat → Sg} (o1 : okS (ks a)) (ha12 : a < 12) (hg : mgr I0 A (gct mcode (ks a))) (C : ∀ I, (∀ c, c ≠ A 159 → I c = I0 c) → (∀ c, c < 784 → I (A 159) c = bz (0 < hlm mcode ks (a + 1) c)) → V z 3 0 0 81 [(0, .ref (A 130)), (1, .int (nI a))] [] κ I R J) :
    ∀ (m k : Nat) (I : Iz), k ≤ 784 → 785 ≤ k + m → (∀ c, c ≠ A 159 → I c = I0 c) → (∀ c, c < k → I (A 159) c = bz (0 < hlm mcode ks (a + 1) c)) → (∀ c, k ≤ c → c < 784 → I (A 159) c = bz (0 < hlm mcode ks a c)) → V z 3 0 0 39 [(0, .ref (A 130)), (1, .int (nI a)), (2, .int (nI k))] [] κ I R J := by
  have hk := hm.k
  have ho := hm.o
  have hR23 := hm.r23
  have hK23 := hm.k23
  have hN23 := hm.n23
  have hO23 := hm.o23
  have hR29 := hm.r29
  have hK29 := hm.k29
  have hN29 := hm.n29
  have hO29 := hm.o29
  have e39 : A 153 ≠ A 159 := hm.ne 23 29 (by decide) (by decide) (by decide)
  intro m
  induction m with
  | zero => intro k I hk9 hm9; exact absurd hm9 (by omega)
  | succ m ih =>
  intro k I hk9 hm9 hF hlo hhi
  have gl := gct_le mcode (ks a) o1.2.1 (fun i hi => (o1.2.2 i hi).1) k
  have hl := hlm_s mcode ks a k
  refine v_iload_n hz dX8_gramsAll_39 rfl ?_
  refine v_si (v := nI 784) hz dX8_gramsAll_40 (by decide) ?_
  first | with_reducible refine v_icmp_geN hz 81 (by omega) (by omega) dX8_gramsAll_43 (by decide) (fun c43 => ?_) (fun c43 => ?_) | refine v_icmp_ge hz 81 dX8_gramsAll_43 (by decide) (fun c43 => ?_) (fun c43 => ?_)
  · exact v_sub (C I hF (fun c hc => hlo c (by omega))) ⟨rfl, rfl, trivial⟩
  · refine v_aload_n hz dX8_gramsAll_46 rfl ?_
    refine v_getR hz fX8_72 (by assumption) (by assumption) dX8_gramsAll_47 ?_
    refine v_iload_n hz dX8_gramsAll_50 rfl ?_
    refine v_aload_n hz dX8_gramsAll_51 rfl ?_
    refine v_getR hz fX8_72 (by assumption) (by assumption) dX8_gramsAll_52 ?_
    refine v_iload_n hz dX8_gramsAll_55 rfl ?_
    refine v_zaldN hz (by assumption) (by assumption) (by omega) (by decide) dX8_gramsAll_56 ?_
    refine v_top (hhi k (Nat.le_refl _) (by omega)) ?_
    refine v_join 74 (bz (0 < hlm mcode ks (a + 1) k)) (fun hj => ?_) ?_
    · first | with_reducible refine v_if_neB hz 69 dX8_gramsAll_57 (by decide) (fun c57 => ?_) (fun c57 => ?_) | with_reducible refine v_if_neN hz 69 (by omega) dX8_gramsAll_57 (by decide) (fun c57 => ?_) (fun c57 => ?_) | refine v_if_ne hz 69 dX8_gramsAll_57 (by decide) (fun c57 => ?_) (fun c57 => ?_)
      · refine v_ic (v := nI 1) hz dX8_gramsAll_69 (by decide) ?_
        refine v_goto hz 74 dX8_gramsAll_70 (by decide) ?_
        exact v_top (by first | exact (bz_t (by rw [hl]; omega)).symm | exact (bz_t (by rw [hl, if_pos (by omega)]; omega)).symm | exact (bz_f (by rw [hl, if_neg (by omega)]; omega)).symm) hj
      · refine v_aload_n hz dX8_gramsAll_60 rfl ?_
        refine v_getR hz fX8_56 (by assumption) (by assumption) dX8_gramsAll_61 ?_
        refine v_iload_n hz dX8_gramsAll_64 rfl ?_
        refine v_ialdN hz (by assumption) (by assumption) (by omega) (by decide) dX8_gramsAll_65 ?_
        refine v_top (y := nI (gct mcode (ks a) k)) (by rw [hF _ e39]; exact hg k (by omega)) ?_
        first | with_reducible refine v_if_leN hz 73 (by omega) dX8_gramsAll_66 (by decide) (fun c66 => ?_) (fun c66 => ?_) | refine v_if_le hz 73 dX8_gramsAll_66 (by decide) (fun c66 => ?_) (fun c66 => ?_)
        · refine v_ic (v := nI 0) hz dX8_gramsAll_73 (by decide) ?_
          exact v_top (by first | exact (bz_t (by rw [hl]; omega)).symm | exact (bz_t (by rw [hl, if_pos (by omega)]; omega)).symm | exact (bz_f (by rw [hl, if_neg (by omega)]; omega)).symm) hj
        · refine v_ic (v := nI 1) hz dX8_gramsAll_69 (by decide) ?_
          refine v_goto hz 74 dX8_gramsAll_70 (by decide) ?_
          exact v_top (by first | exact (bz_t (by rw [hl]; omega)).symm | exact (bz_t (by rw [hl, if_pos (by omega)]; omega)).symm | exact (bz_f (by rw [hl, if_neg (by omega)]; omega)).symm) hj
    refine v_zastN hz (by assumption) (by assumption) (by omega) (by decide) (by first | exact Or.inl rfl | exact Or.inr rfl | exact bz_01) dX8_gramsAll_74 ?_
    first | refine v_iincN hz 1 dX8_gramsAll_75 (by decide) rfl (by decide) rfl ?_ | refine v_iinc hz dX8_gramsAll_75 rfl (by decide) rfl ?_
    refine v_goto hz 39 dX8_gramsAll_78 (by decide) ?_
    exact v_sub (ih (k + 1) _ (by omega) (by omega) (fun a ha => by rw [u2_ne ha]; exact hF a ha) (fun c hc => by
      by_cases e : c = k
      · rw [e, u2_eq]
      · rw [u2_at e]; exact hlo c (by omega)) (fun c h1 h2 => by rw [u2_at (by omega)]; exact hhi c (by omega) h2)) ⟨rfl, rfl, rfl, trivial⟩
set_option maxHeartbeats 4000000 in
set_option maxRecDepth 100000 in
theorem lp_gA4 {z : Zz} {κ : Kz} {I0 : Iz} {R : Rz} {J : Jz} {A : Nat → Nat} (hm : LM κ R A) (hz : Am z cX8_gramsAll RX8 3 3) {kn : Nat} {ks : Nat → Sg} {I : Iz} (hv : ∀ i, i < kn → okQ (ks i)) (hQ : QF A I0 I) (hI : ∀ c, c < 784 → I (A 159) c = bz (0 < hlm mcode ks kn c)) (hr : Rt z yX8_gramsAll (some .int) 0 0 (Si κ R J (fun r I1 => r = nI (kzn (hlm ccode ks kn)) ∧ QF A I0 I1))) :
    ∀ (m k : Nat), k ≤ 784 → 785 ≤ k + m → V z 3 0 0 91 [(0, .ref (A 130)), (1, .int (nI (sm (fun c => if 0 < hlm mcode ks kn c then 1 else 0) k))), (2, .int (nI k))] [] κ I R J := by
  have hk := hm.k
  have ho := hm.o
  have hR23 := hm.r23
  have hK23 := hm.k23
  have hN23 := hm.n23
  have hO23 := hm.o23
  have hR29 := hm.r29
  have hK29 := hm.k29
  have hN29 := hm.n29
  have hO29 := hm.o29
  intro m
  induction m with
  | zero => intro k hk9 hm9; exact absurd hm9 (by omega)
  | succ m ih =>
  intro k hk9 hm9
  refine v_iload_n hz dX8_gramsAll_91 rfl ?_
  refine v_si (v := nI 784) hz dX8_gramsAll_92 (by decide) ?_
  first | with_reducible refine v_icmp_geN hz 116 (by omega) (by omega) dX8_gramsAll_95 (by decide) (fun c95 => ?_) (fun c95 => ?_) | refine v_icmp_ge hz 116 dX8_gramsAll_95 (by decide) (fun c95 => ?_) (fun c95 => ?_)
  · refine v_iload_n hz dX8_gramsAll_116 rfl (v_iret hz hr dX8_gramsAll_117 ⟨?_, hQ⟩)
    rw [← kznM_eq (fun i hi => (hv i hi).1)]
    unfold kznM
    rw [smw_eq, show k = 784 by omega]
  · refine v_iload_n hz dX8_gramsAll_98 rfl ?_
    refine v_aload_n hz dX8_gramsAll_99 rfl ?_
    refine v_getR hz fX8_72 (by assumption) (by assumption) dX8_gramsAll_100 ?_
    refine v_iload_n hz dX8_gramsAll_103 rfl ?_
    refine v_zaldN hz (by assumption) (by assumption) (by omega) (by decide) dX8_gramsAll_104 ?_
    refine v_top (hI k (by omega)) ?_
    refine v_callSi hz lX8_229 (cX8_bit_ok _ _ _ _ _ _ _) rfl rfl (Nat.le_of_ble_eq_true rfl) (by decide) ⟨Nat.zero_le _, Nat.zero_le _⟩ dX8_gramsAll_105 (fun r I3 q105 => ?_)
    obtain ⟨rfl, eI⟩ := q105
    rw [eI]
    refine v_top (y := nI (if 0 < hlm mcode ks kn k then 1 else 0)) (by by_cases q : 0 < hlm mcode ks kn k; rw [bz_t q, if_pos q]; rfl; rw [bz_f q, if_neg q]; rfl) ?_
    first | with_reducible refine v_iaddN hz dX8_gramsAll_108 ?_ | refine v_iadd hz dX8_gramsAll_108 ?_
    refine v_istore_n hz dX8_gramsAll_109 (by decide) rfl ?_
    first | refine v_iincN hz 1 dX8_gramsAll_110 (by decide) rfl (by decide) rfl ?_ | refine v_iinc hz dX8_gramsAll_110 rfl (by decide) rfl ?_
    refine v_goto hz 91 dX8_gramsAll_113 (by decide) ?_
    exact v_sub (ih (k + 1) (by omega) (by omega)) ⟨rfl, rfl, rfl, trivial⟩
set_option maxHeartbeats 4000000 in
set_option maxRecDepth 100000 in
theorem lp_gA2 {z : Zz} {κ : Kz} {I0 : Iz} {R : Rz} {J : Jz} {A : Nat → Nat} (hm : LM κ R A) (hz : Am z cX8_gramsAll RX8 3 3) {pg : Nat → Nat} {n kn : Nat} {ks : Nat → Sg} {tm : Nat → Int32} {T : Sg} {qa w bd : Nat} {te td : Int32} (hs : MS I0 A pg n kn ks tm T qa w bd te td) (hv : ∀ i, i < kn → okQ (ks i)) (hr : Rt z yX8_gramsAll (some .int) 0 0 (Si κ R J (fun r I1 => r = nI (kzn (hlm ccode ks kn)) ∧ QF A I0 I1))) :
    ∀ (m a : Nat) (I : Iz), a ≤ kn → kn + 1 ≤ a + m → QF A I0 I → (∀ c, c < 784 → I (A 159) c = bz (0 < hlm mcode ks a c)) → V z 3 0 0 24 [(0, .ref (A 130)), (1, .int (nI a))] [] κ I R J := by
  have hk := hm.k
  have ho := hm.o
  have hR23 := hm.r23
  have hK23 := hm.k23
  have hN23 := hm.n23
  have hO23 := hm.o23
  have hR29 := hm.r29
  have hK29 := hm.k29
  have hN29 := hm.n29
  have hO29 := hm.o29
  intro m
  induction m with
  | zero => intro a I ha hm9; exact absurd hm9 (by omega)
  | succ m ih =>
  intro a I ha hm9 hQ hI
  have hsI := hQ.ms hm hs
  obtain ⟨⟨h0, h0a, h0b⟩, ⟨h2, h3, h4⟩, ⟨h5, h6, h7⟩, ⟨⟨h8, h8a⟩, h9, h10⟩, h11, h12⟩ := id hsI
  refine v_iload_n hz dX8_gramsAll_24 rfl ?_
  refine v_aload_n hz dX8_gramsAll_25 rfl ?_
  refine v_getI hz fX8_107 (by assumption) dX8_gramsAll_26 ?_
  refine v_top h3 ?_
  first | with_reducible refine v_icmp_geN hz 87 (by omega) (by omega) dX8_gramsAll_29 (by decide) (fun c29 => ?_) (fun c29 => ?_) | refine v_icmp_ge hz 87 dX8_gramsAll_29 (by decide) (fun c29 => ?_) (fun c29 => ?_)
  · refine v_ic (v := nI 0) hz dX8_gramsAll_87 (by decide) ?_
    refine v_istore_n hz dX8_gramsAll_88 (by decide) rfl ?_
    refine v_ic (v := nI 0) hz dX8_gramsAll_89 (by decide) ?_
    refine v_istore_n hz dX8_gramsAll_90 (by decide) rfl ?_
    exact v_sub (lp_gA4 hm hz hv hQ (by rw [show kn = a by omega]; exact hI) hr 785 0 (by omega) (by omega)) ⟨rfl, rfl, rfl, trivial⟩
  · refine v_aload_n hz dX8_gramsAll_32 rfl ?_
    refine v_iload_n hz dX8_gramsAll_33 rfl ?_
    refine v_callVv hz lX8_179 (cX8_layGrams_ok _ _ _ _ _ _ A hm a (ks a) (h4 a (by omega)).1 (hv a (by omega)).1) (by assumption) rfl rfl (Nat.le_of_ble_eq_true rfl) (by decide) ⟨Nat.zero_le _, Nat.zero_le _⟩ dX8_gramsAll_34 (fun I2 q34 => ?_)
    obtain ⟨hF, hg⟩ := q34
    have r59 : I2 (A 159) = I (A 159) := hm.fm hF 29 (by decide) (by decide)
    refine v_ic (v := nI 0) hz dX8_gramsAll_37 (by decide) ?_
    refine v_istore_n hz dX8_gramsAll_38 (by decide) rfl ?_
    refine v_sub (lp_gA3 hm hz (I0 := I2) (a := a) (ks := ks) (hv a (by omega)).1 (by omega) hg (fun I5 g1 g2 => ?_) 785 0 I2 (by omega) (by omega) (fun _ _ => rfl) (fun c hc => absurd hc (by omega)) (fun c _ hc => by rw [r59]; exact hI c hc)) ⟨rfl, rfl, rfl, trivial⟩
    first | refine v_iincN hz 1 dX8_gramsAll_81 (by decide) rfl (by decide) rfl ?_ | refine v_iinc hz dX8_gramsAll_81 rfl (by decide) rfl ?_
    refine v_goto hz 24 dX8_gramsAll_84 (by decide) ?_
    exact v_sub (ih (a + 1) _ (by omega) (by omega) ((hQ.tr (QF.of3 hm hF)).tr (QF.one (by decide) (show A 130 ≠ A 159 from hm.ne 0 29 (by decide) (by decide) (by decide)) g1)) g2) ⟨rfl, rfl, trivial⟩
set_option maxHeartbeats 4000000 in
set_option maxRecDepth 100000 in
theorem cX8_gramsAll_ok (l : Launch) (g : Gz) (κ : Kz) (I : Iz) (R : Rz) (J : Jz) (A : Nat → Nat) (hm : LM κ R A) (pg : Nat → Nat) (n kn : Nat) (ks : Nat → Sg) (tm : Nat → Int32) (T : Sg) (qa w bd : Nat) (te td : Int32) (hs : MS I A pg n kn ks tm T qa w bd te td) (hv : ∀ i, i < kn → okQ (ks i)) : Ct l mX8_gramsAll 0 0 g [.ref (A 130)] κ I R J (Si κ R J (fun r I1 => r = nI (kzn (hlm ccode ks kn)) ∧ QF A I I1)) := by
  refine ct_of (by decide) (Nat.le_of_ble_eq_true rfl) ?_
  intro z hz hr hrc hrs
  have hz : Am z cX8_gramsAll RX8 3 3 := hz
  have hr : Rt z yX8_gramsAll (some .int) 0 0 _ := hr
  show V z 3 0 0 0 [(0, .ref (A 130))] [] κ I R J
  have hk := hm.k
  have ho := hm.o
  have hR23 := hm.r23
  have hK23 := hm.k23
  have hN23 := hm.n23
  have hO23 := hm.o23
  have hR29 := hm.r29
  have hK29 := hm.k29
  have hN29 := hm.n29
  have hO29 := hm.o29
  refine v_ic (v := nI 0) hz dX8_gramsAll_0 (by decide) ?_
  refine v_istore_n hz dX8_gramsAll_1 (by decide) rfl ?_
  refine v_sub (lp_gA1 hm hz (I0 := I) (fun I3 h3 h4 => ?_) 785 0 I (by omega) (by omega) (fun _ _ => rfl) (fun x hx => absurd hx (by omega))) ⟨rfl, rfl, trivial⟩
  refine v_ic (v := nI 0) hz dX8_gramsAll_22 (by decide) ?_
  refine v_istore_n hz dX8_gramsAll_23 (by decide) rfl ?_
  exact v_sub (lp_gA2 hm hz hs hv hr (kn + 1) 0 I3 (by omega) (by omega) (QF.one (by decide) (show A 130 ≠ A 159 from hm.ne 0 29 (by decide) (by decide) (by decide)) h3) (fun c hc => by rw [h4 c hc]; exact (bz_f (by exact Nat.lt_irrefl 0)).symm)) ⟨rfl, rfl, trivial⟩
set_option maxHeartbeats 4000000 in
set_option maxRecDepth 100000 in
theorem cX8_howMany_ok (l : Launch) (g : Gz) (κ : Kz) (I : Iz) (R : Rz) (J : Jz) (A : Nat → Nat) (hm : LM κ R A) (pg : Nat → Nat) (n kn : Nat) (ks : Nat → Sg) (tm : Nat → Int32) (T : Sg) (qa w bd : Nat) (te td : Int32) (hs : MS I A pg n kn ks tm T qa w bd te td) (hv : ∀ i, i < kn → okQ (ks i)) (x : Int32) : Ct l mX8_howMany 0 0 g [.ref (A 130), .int x] κ I R J (Si κ R J (fun r I1 => r = cntR n kn ks qa w bd te td x ∧ QF A I I1)) := by
  refine ct_of (by decide) (Nat.le_of_ble_eq_true rfl) ?_
  intro z hz hr hrc hrs
  have hz : Am z cX8_howMany RX8 2 4 := hz
  have hr : Rt z yX8_howMany (some .int) 0 0 _ := hr
  show V z 2 0 0 0 [(0, .ref (A 130)), (1, .int x)] [] κ I R J
  have hk := hm.k
  have ho := hm.o
  obtain ⟨⟨h0, h0a, h0b⟩, ⟨h2, h3, h4⟩, ⟨h5, h6, h7⟩, ⟨⟨h8, h8a⟩, h9, h10⟩, h11, h12⟩ := id hs
  refine v_iload_n hz dX8_howMany_0 rfl ?_
  refine v_tsw hz 0 7 [48, 53, 58, 63, 68, 73, 78, 83] 88 dX8_howMany_1 ⟨rfl, rfl⟩ (by decide) (by decide) (by decide) (fun j1 hj1_1 hj2_1 c1 => ?_) (fun c1 => ?_)
  · rcases (show j1 = 0 ∨ j1 = 1 ∨ j1 = 2 ∨ j1 = 3 ∨ j1 = 4 ∨ j1 = 5 ∨ j1 = 6 ∨ j1 = 7 by omega) with rfl | rfl | rfl | rfl | rfl | rfl | rfl | rfl
    · refine v_pc (pc' := 48) rfl ?_
      subst c1
      refine v_aload_n hz dX8_howMany_48 rfl ?_
      refine v_getI hz fX8_79 (by assumption) dX8_howMany_49 ?_
      refine v_top h0a ?_
      exact v_iret hz hr dX8_howMany_52 ⟨by unfold cntR; rw [if_pos rfl], QF.rf⟩
    · refine v_pc (pc' := 53) rfl ?_
      subst c1
      refine v_aload_n hz dX8_howMany_53 rfl ?_
      refine v_getI hz fX8_107 (by assumption) dX8_howMany_54 ?_
      refine v_top h3 ?_
      exact v_iret hz hr dX8_howMany_57 ⟨by unfold cntR; rw [if_neg (by decide), if_pos rfl], QF.rf⟩
    · refine v_pc (pc' := 58) rfl ?_
      subst c1
      refine v_aload_n hz dX8_howMany_58 rfl ?_
      refine v_getI hz fX8_117 (by assumption) dX8_howMany_59 ?_
      refine v_top h11 ?_
      exact v_iret hz hr dX8_howMany_62 ⟨by unfold cntR; rw [if_neg (by decide), if_neg (by decide), if_pos rfl], QF.rf⟩
    · refine v_pc (pc' := 63) rfl ?_
      subst c1
      refine v_aload_n hz dX8_howMany_63 rfl ?_
      refine v_getI hz fX8_123 (by assumption) dX8_howMany_64 ?_
      refine v_top h12 ?_
      exact v_iret hz hr dX8_howMany_67 ⟨by unfold cntR; rw [if_neg (by decide), if_neg (by decide), if_neg (by decide), if_pos rfl], QF.rf⟩
    · refine v_pc (pc' := 68) rfl ?_
      subst c1
      refine v_aload_n hz dX8_howMany_68 rfl ?_
      refine v_getI hz fX8_130 (by assumption) dX8_howMany_69 ?_
      refine v_top h6 ?_
      exact v_iret hz hr dX8_howMany_72 ⟨by unfold cntR; rw [if_neg (by decide), if_neg (by decide), if_neg (by decide), if_neg (by decide), if_pos rfl], QF.rf⟩
    · refine v_pc (pc' := 73) rfl ?_
      subst c1
      refine v_aload_n hz dX8_howMany_73 rfl ?_
      refine v_getI hz fX8_28 (by assumption) dX8_howMany_74 ?_
      refine v_top h8 ?_
      exact v_iret hz hr dX8_howMany_77 ⟨by unfold cntR; rw [if_neg (by decide), if_neg (by decide), if_neg (by decide), if_neg (by decide), if_neg (by decide), if_pos rfl], QF.rf⟩
    · refine v_pc (pc' := 78) rfl ?_
      subst c1
      refine v_aload_n hz dX8_howMany_78 rfl ?_
      refine v_getI hz fX8_32 (by assumption) dX8_howMany_79 ?_
      refine v_top h9 ?_
      exact v_iret hz hr dX8_howMany_82 ⟨by unfold cntR; rw [if_neg (by decide), if_neg (by decide), if_neg (by decide), if_neg (by decide), if_neg (by decide), if_neg (by decide), if_pos rfl], QF.rf⟩
    · refine v_pc (pc' := 83) rfl ?_
      subst c1
      refine v_aload_n hz dX8_howMany_83 rfl ?_
      refine v_callVi hz lX8_270 (cX8_gramsAll_ok _ _ _ _ _ _ A hm pg n kn ks tm T qa w bd te td hs hv) (by assumption) rfl rfl (Nat.le_of_ble_eq_true rfl) (by decide) ⟨Nat.zero_le _, Nat.zero_le _⟩ dX8_howMany_84 (fun r I1 h84 => ?_)
      exact v_iret hz hr dX8_howMany_87 ⟨by rw [h84.1]; unfold cntR; rw [if_neg (by decide), if_neg (by decide), if_neg (by decide), if_neg (by decide), if_neg (by decide), if_neg (by decide), if_neg (by decide), if_pos rfl], h84.2⟩
  · refine v_si (v := (-1002)) hz dX8_howMany_88 (by decide) ?_
    exact v_iret hz hr dX8_howMany_91 ⟨by unfold cntR; rw [if_neg (fun e => c1 ⟨0, by omega, by omega, e⟩), if_neg (fun e => c1 ⟨1, by omega, by omega, e⟩), if_neg (fun e => c1 ⟨2, by omega, by omega, e⟩), if_neg (fun e => c1 ⟨3, by omega, by omega, e⟩), if_neg (fun e => c1 ⟨4, by omega, by omega, e⟩), if_neg (fun e => c1 ⟨5, by omega, by omega, e⟩), if_neg (fun e => c1 ⟨6, by omega, by omega, e⟩), if_neg (fun e => c1 ⟨7, by omega, by omega, e⟩)], QF.rf⟩
set_option maxHeartbeats 4000000 in
set_option maxRecDepth 100000 in
theorem cX8_count_ok (l : Launch) (g : Gz) (κ : Kz) (I : Iz) (R : Rz) (J : Jz) (A : Nat → Nat) (hm : LM κ R A) (pg : Nat → Nat) (n kn : Nat) (ks : Nat → Sg) (tm : Nat → Int32) (T : Sg) (qa w bd : Nat) (te td : Int32) (hs : MS I A pg n kn ks tm T qa w bd te td) (hv : ∀ i, i < kn → okQ (ks i)) (x : Int32) : Ct l mX8_count 0 0 g [.ref (A 130), .int x] κ I R J (Si κ R J (fun r I1 => r = cntR n kn ks qa w bd te td x ∧ QF A I I1)) := by
  refine ct_of (by decide) (Nat.le_of_ble_eq_true rfl) ?_
  intro z hz hr hrc hrs
  have hz : Am z cX8_count RX8 2 5 := hz
  have hr : Rt z yX8_count (some .int) 0 0 _ := hr
  show V z 2 0 0 0 [(0, .ref (A 130)), (1, .int x)] [] κ I R J
  have hk := hm.k
  have ho := hm.o
  refine v_aload_n hz dX8_count_0 rfl ?_
  refine v_iload_n hz dX8_count_1 rfl ?_
  refine v_callVi hz lX8_273 (cX8_howMany_ok _ _ _ _ _ _ A hm pg n kn ks tm T qa w bd te td hs hv x) (by assumption) rfl rfl (Nat.le_of_ble_eq_true rfl) (by decide) ⟨Nat.zero_le _, Nat.zero_le _⟩ dX8_count_2 (fun r I2 q2 => ?_)
  exact v_iret hz hr dX8_count_5 ⟨q2.1, q2.2⟩
theorem v_topl {z : Zz} {nL k n pc : Nat} {lv : List (Nat × Value)} {st : List Value} {κ : Kz} {I : Iz} {R : Rz} {J : Jz} {x y : Int64} (e : x = y) (h : V z nL k n pc lv (.long y :: st) κ I R J) : V z nL k n pc lv (.long x :: st) κ I R J := e ▸ h
set_option maxHeartbeats 4000000 in
set_option maxRecDepth 100000 in
theorem cX8_mix_ok (l : Launch) (g : Gz) (κ : Kz) (I : Iz) (R : Rz) (J : Jz) (A : Nat → Nat) (hm : LM κ R A) (h v : Int64) : Ct l mX8_mix 0 0 g [.ref (A 130), .long v] κ I R (u2 J (A 130) 30 h) (Sj κ R (fun I1 J1 => I1 = I ∧ J1 = u2 J (A 130) 30 (31 * h + v))) := by
  refine ct_of (by decide) (Nat.le_of_ble_eq_true rfl) ?_
  intro z hz hr hrc hrs
  have hz : Am z cX8_mix RX8 3 0 := hz
  have hr : Rt z yX8_mix none 0 0 _ := hr
  show V z 3 0 0 0 [(0, .ref (A 130)), (1, .long v)] [] κ I R (u2 J (A 130) 30 h)
  have hk := hm.k
  have ho := hm.o
  refine v_aload_n hz dX8_mix_0 rfl ?_
  refine v_ldc2 (v := 31) hz (tg_mem 1082 (by decide +kernel) rfl) dX8_mix_1 ?_
  refine v_aload_n hz dX8_mix_4 rfl ?_
  refine v_getJ hz fX8_278 (by assumption) dX8_mix_5 ?_
  refine v_topl (y := h) u2_eq ?_
  refine v_lmul hz dX8_mix_8 ?_
  refine v_lload_n hz dX8_mix_9 rfl ?_
  refine v_ladd hz dX8_mix_10 ?_
  refine v_putJ hz fX8_278 (by assumption) dX8_mix_11 ?_
  exact v_vret0 hz hr dX8_mix_14 ⟨rfl, rfl, rfl, rfl, u2_u2⟩
set_option maxHeartbeats 4000000 in
set_option maxRecDepth 100000 in
theorem lp_mQ1 {z : Zz} {κ : Kz} {I0 : Iz} {R : Rz} {J : Jz} {A : Nat → Nat} (hm : LM κ R A) (hz : Am z cX8_mixQuestion RX8 3 11) {pg : Nat → Nat} {n kn : Nat} {ks : Nat → Sg} {tm : Nat → Int32} {T : Sg} {qa w bd : Nat} {te td : Int32} (hs : MS I0 A pg n kn ks tm T qa w bd te td) (hv : ∀ i, i < kn → okQ (ks i)) (hvT : 0 < qa → okQ T) (hqa : 0 < qa) (h : Int64) (C : ∀ I, QF A I0 I → V z 3 0 0 24 [(0, .ref (A 130))] [] κ I R (u2 J (A 130) 30 (mxs h (fun v => quT w bd ks T kn v) 10))) :
    ∀ (m v : Nat) (I : Iz), v ≤ 10 → 11 ≤ v + m → QF A I0 I → V z 3 0 0 2 [(0, .ref (A 130)), (1, .int (nI v))] [] κ I R (u2 J (A 130) 30 (mxs h (fun v => quT w bd ks T kn v) v)) := by
  have hk := hm.k
  have ho := hm.o
  have hR25 := hm.r25
  have hK25 := hm.k25
  have hN25 := hm.n25
  have hO25 := hm.o25
  intro m
  induction m with
  | zero => intro v I ha hm9; exact absurd hm9 (by omega)
  | succ m ih =>
  intro v I ha hm9 hQ
  have hsI := hQ.ms hm hs
  obtain ⟨⟨h0, h0a, h0b⟩, ⟨h2, h3, h4⟩, ⟨h5, h6, h7⟩, ⟨⟨h8, h8a⟩, h9, h10⟩, h11, h12⟩ := id hsI
  refine v_iload_n hz dX8_mixQuestion_2 rfl ?_
  refine v_bi (v := nI 10) hz dX8_mixQuestion_3 (by decide) ?_
  first | with_reducible refine v_icmp_geN hz 24 (by omega) (by omega) dX8_mixQuestion_5 (by decide) (fun c5 => ?_) (fun c5 => ?_) | refine v_icmp_ge hz 24 dX8_mixQuestion_5 (by decide) (fun c5 => ?_) (fun c5 => ?_)
  · rw [show v = 10 by omega]
    exact v_sub (C I hQ) ⟨rfl, trivial⟩
  · refine v_aload_n hz dX8_mixQuestion_8 rfl ?_
    refine v_aload_n hz dX8_mixQuestion_9 rfl ?_
    refine v_iload_n hz dX8_mixQuestion_10 rfl ?_
    refine v_callVi hz lX8_267 (cX8_questionNow_ok _ _ _ _ _ _ A hm pg n kn ks tm T qa w bd te td hsI hv hvT hqa v (by omega)) (by assumption) rfl rfl (Nat.le_of_ble_eq_true rfl) (by decide) ⟨Nat.zero_le _, Nat.zero_le _⟩ dX8_mixQuestion_11 (fun r I2 q11 => ?_)
    obtain ⟨rfl, hG⟩ := q11
    refine v_i2l hz dX8_mixQuestion_14 ?_
    refine v_callVj hz lX8_282 (cX8_mix_ok _ _ _ _ _ J A hm (mxs h (fun v => quT w bd ks T kn v) v) _) (by assumption) rfl rfl (Nat.le_of_ble_eq_true rfl) (by decide) ⟨Nat.zero_le _, Nat.zero_le _⟩ dX8_mixQuestion_15 (fun I9 J9 hj => ?_)
    obtain ⟨eI9, eJ9⟩ := hj
    rw [eI9, eJ9]
    first | refine v_iincN hz 1 dX8_mixQuestion_18 (by decide) rfl (by decide) rfl ?_ | refine v_iinc hz dX8_mixQuestion_18 rfl (by decide) rfl ?_
    refine v_goto hz 2 dX8_mixQuestion_21 (by decide) ?_
    exact v_sub (ih (v + 1) _ (by omega) (by omega) (hQ.tr hG)) ⟨rfl, rfl, trivial⟩
set_option maxHeartbeats 4000000 in
set_option maxRecDepth 100000 in
theorem lp_mQ3 {z : Zz} {κ : Kz} {I0 : Iz} {R : Rz} {J : Jz} {A : Nat → Nat} (hm : LM κ R A) (hz : Am z cX8_mixQuestion RX8 3 11) {pg : Nat → Nat} {n kn : Nat} {ks : Nat → Sg} {tm : Nat → Int32} {T : Sg} {qa w bd : Nat} {te td : Int32} (hs : MS I0 A pg n kn ks tm T qa w bd te td) (hv : ∀ i, i < kn → okQ (ks i)) (hvT : 0 < qa → okQ T) (hqa : 0 < qa) (h : Int64) {a : Nat} (ha9 : a < kn) (C : ∀ I, QF A I0 I → V z 3 0 0 59 [(0, .ref (A 130)), (1, .int (nI a))] [] κ I R (u2 J (A 130) 30 (mxs h (fun v => nrT w bd (ks a) T v) 10))) :
    ∀ (m v : Nat) (I : Iz), v ≤ 10 → 11 ≤ v + m → QF A I0 I → V z 3 0 0 36 [(0, .ref (A 130)), (1, .int (nI a)), (2, .int (nI v))] [] κ I R (u2 J (A 130) 30 (mxs h (fun v => nrT w bd (ks a) T v) v)) := by
  have hk := hm.k
  have ho := hm.o
  have hR25 := hm.r25
  have hK25 := hm.k25
  have hN25 := hm.n25
  have hO25 := hm.o25
  intro m
  induction m with
  | zero => intro v I ha hm9; exact absurd hm9 (by omega)
  | succ m ih =>
  intro v I ha hm9 hQ
  have hsI := hQ.ms hm hs
  obtain ⟨⟨h0, h0a, h0b⟩, ⟨h2, h3, h4⟩, ⟨h5, h6, h7⟩, ⟨⟨h8, h8a⟩, h9, h10⟩, h11, h12⟩ := id hsI
  refine v_iload_n hz dX8_mixQuestion_36 rfl ?_
  refine v_bi (v := nI 10) hz dX8_mixQuestion_37 (by decide) ?_
  first | with_reducible refine v_icmp_geN hz 59 (by omega) (by omega) dX8_mixQuestion_39 (by decide) (fun c39 => ?_) (fun c39 => ?_) | refine v_icmp_ge hz 59 dX8_mixQuestion_39 (by decide) (fun c39 => ?_) (fun c39 => ?_)
  · rw [show v = 10 by omega]
    exact v_sub (C I hQ) ⟨rfl, rfl, trivial⟩
  · refine v_aload_n hz dX8_mixQuestion_42 rfl ?_
    refine v_aload_n hz dX8_mixQuestion_43 rfl ?_
    refine v_iload_n hz dX8_mixQuestion_44 rfl ?_
    refine v_iload_n hz dX8_mixQuestion_45 rfl ?_
    refine v_callVi hz lX8_242 (cX8_nearNow_ok _ _ _ _ _ _ A hm a v w bd (ks a) T (by omega) ⟨h8, h8a⟩ h9 h10 (h4 a (by omega)).1 (h7 hqa) (hv a (by omega)) (hvT hqa)) (by assumption) rfl rfl (Nat.le_of_ble_eq_true rfl) (by decide) ⟨Nat.zero_le _, Nat.zero_le _⟩ dX8_mixQuestion_46 (fun r I2 q46 => ?_)
    obtain ⟨rfl, hG⟩ := q46
    refine v_i2l hz dX8_mixQuestion_49 ?_
    refine v_callVj hz lX8_282 (cX8_mix_ok _ _ _ _ _ J A hm (mxs h (fun v => nrT w bd (ks a) T v) v) _) (by assumption) rfl rfl (Nat.le_of_ble_eq_true rfl) (by decide) ⟨Nat.zero_le _, Nat.zero_le _⟩ dX8_mixQuestion_50 (fun I9 J9 hj => ?_)
    obtain ⟨eI9, eJ9⟩ := hj
    rw [eI9, eJ9]
    first | refine v_iincN hz 1 dX8_mixQuestion_53 (by decide) rfl (by decide) rfl ?_ | refine v_iinc hz dX8_mixQuestion_53 rfl (by decide) rfl ?_
    refine v_goto hz 36 dX8_mixQuestion_56 (by decide) ?_
    exact v_sub (ih (v + 1) _ (by omega) (by omega) (hQ.tr hG)) ⟨rfl, rfl, rfl, trivial⟩
set_option maxHeartbeats 4000000 in
set_option maxRecDepth 100000 in
theorem lp_mQ2 {z : Zz} {κ : Kz} {I0 : Iz} {R : Rz} {J : Jz} {A : Nat → Nat} (hm : LM κ R A) (hz : Am z cX8_mixQuestion RX8 3 11) {pg : Nat → Nat} {n kn : Nat} {ks : Nat → Sg} {tm : Nat → Int32} {T : Sg} {qa w bd : Nat} {te td : Int32} (hs : MS I0 A pg n kn ks tm T qa w bd te td) (hv : ∀ i, i < kn → okQ (ks i)) (hvT : 0 < qa → okQ T) (hqa : 0 < qa) (h : Int64) (C : ∀ I, QF A I0 I → V z 3 0 0 65 [(0, .ref (A 130))] [] κ I R (u2 J (A 130) 30 (dgN ks T w bd h kn))) :
    ∀ (m a : Nat) (I : Iz), a ≤ kn → kn + 1 ≤ a + m → QF A I0 I → V z 3 0 0 26 [(0, .ref (A 130)), (1, .int (nI a))] [] κ I R (u2 J (A 130) 30 (dgN ks T w bd h a)) := by
  have hk := hm.k
  have ho := hm.o
  have hR25 := hm.r25
  have hK25 := hm.k25
  have hN25 := hm.n25
  have hO25 := hm.o25
  intro m
  induction m with
  | zero => intro a I ha hm9; exact absurd hm9 (by omega)
  | succ m ih =>
  intro a I ha hm9 hQ
  have hsI := hQ.ms hm hs
  obtain ⟨⟨h0, h0a, h0b⟩, ⟨h2, h3, h4⟩, ⟨h5, h6, h7⟩, ⟨⟨h8, h8a⟩, h9, h10⟩, h11, h12⟩ := id hsI
  refine v_iload_n hz dX8_mixQuestion_26 rfl ?_
  refine v_aload_n hz dX8_mixQuestion_27 rfl ?_
  refine v_getI hz fX8_107 (by assumption) dX8_mixQuestion_28 ?_
  refine v_top h3 ?_
  first | with_reducible refine v_icmp_geN hz 65 (by omega) (by omega) dX8_mixQuestion_31 (by decide) (fun c31 => ?_) (fun c31 => ?_) | refine v_icmp_ge hz 65 dX8_mixQuestion_31 (by decide) (fun c31 => ?_) (fun c31 => ?_)
  · rw [show a = kn by omega]
    exact v_sub (C I hQ) ⟨rfl, trivial⟩
  · refine v_ic (v := nI 0) hz dX8_mixQuestion_34 (by decide) ?_
    refine v_istore_n hz dX8_mixQuestion_35 (by decide) rfl ?_
    refine v_sub (lp_mQ3 hm hz (I0 := I) hsI hv hvT hqa (dgN ks T w bd h a) (a := a) (by omega) (fun I5 hG => ?_) 11 0 I (by omega) (by omega) QF.rf) ⟨rfl, rfl, rfl, trivial⟩
    first | refine v_iincN hz 1 dX8_mixQuestion_59 (by decide) rfl (by decide) rfl ?_ | refine v_iinc hz dX8_mixQuestion_59 rfl (by decide) rfl ?_
    refine v_goto hz 26 dX8_mixQuestion_62 (by decide) ?_
    exact v_sub (ih (a + 1) _ (by omega) (by omega) (hQ.tr hG)) ⟨rfl, rfl, trivial⟩
set_option maxHeartbeats 4000000 in
set_option maxRecDepth 100000 in
theorem lp_mQ4 {z : Zz} {κ : Kz} {I0 : Iz} {R : Rz} {J : Jz} {A : Nat → Nat} (hm : LM κ R A) (hz : Am z cX8_mixQuestion RX8 3 11) {pg : Nat → Nat} {n kn : Nat} {ks : Nat → Sg} {tm : Nat → Int32} {T : Sg} {qa w bd : Nat} {te td : Int32} {I : Iz} (h : Int64) (hQ : QF A I0 I) (hkn : kn ≤ 12) (hrk : rkO I A w bd ks T kn) {P : Postz} (hr : Rt z yX8_mixQuestion none 0 0 P) (hP : P none κ I R (u2 J (A 130) 30 (mxs h (fun k => nI ((rkF w bd ks T kn).2 k)) (rkF w bd ks T kn).1))) :
    ∀ (m k : Nat), k ≤ (rkF w bd ks T kn).1 → (rkF w bd ks T kn).1 + 1 ≤ k + m → V z 3 0 0 71 [(0, .ref (A 130)), (1, .int (nI k))] [] κ I R (u2 J (A 130) 30 (mxs h (fun k => nI ((rkF w bd ks T kn).2 k)) k)) := by
  have hk := hm.k
  have ho := hm.o
  have hR25 := hm.r25
  have hK25 := hm.k25
  have hN25 := hm.n25
  have hO25 := hm.o25
  obtain ⟨k1, k2, k3⟩ := id hrk
  have rl := rkF_le w bd ks T kn
  intro m
  induction m with
  | zero => intro k hk9 hm9; exact absurd hm9 (by omega)
  | succ m ih =>
  intro k hk9 hm9
  refine v_iload_n hz dX8_mixQuestion_71 rfl ?_
  refine v_aload_n hz dX8_mixQuestion_72 rfl ?_
  refine v_getI hz fX8_245 (by assumption) dX8_mixQuestion_73 ?_
  refine v_top k1 ?_
  first | with_reducible refine v_icmp_geN hz 96 (by omega) (by omega) dX8_mixQuestion_76 (by decide) (fun c76 => ?_) (fun c76 => ?_) | refine v_icmp_ge hz 96 dX8_mixQuestion_76 (by decide) (fun c76 => ?_) (fun c76 => ?_)
  · refine v_vret0 hz hr dX8_mixQuestion_96 ?_
    rw [show k = (rkF w bd ks T kn).1 by omega]
    exact hP
  · refine v_aload_n hz dX8_mixQuestion_79 rfl ?_
    refine v_aload_n hz dX8_mixQuestion_80 rfl ?_
    refine v_getR hz fX8_59 (by assumption) (by assumption) dX8_mixQuestion_81 ?_
    refine v_iload_n hz dX8_mixQuestion_84 rfl ?_
    refine v_ialdN hz (by assumption) (by assumption) (by omega) (by decide) dX8_mixQuestion_85 ?_
    refine v_top (k2 k (by omega)) ?_
    refine v_i2l hz dX8_mixQuestion_86 ?_
    refine v_callVj hz lX8_282 (cX8_mix_ok _ _ _ _ _ J A hm (mxs h (fun k => nI ((rkF w bd ks T kn).2 k)) k) _) (by assumption) rfl rfl (Nat.le_of_ble_eq_true rfl) (by decide) ⟨Nat.zero_le _, Nat.zero_le _⟩ dX8_mixQuestion_87 (fun I9 J9 hj => ?_)
    obtain ⟨eI9, eJ9⟩ := hj
    rw [eI9, eJ9]
    first | refine v_iincN hz 1 dX8_mixQuestion_90 (by decide) rfl (by decide) rfl ?_ | refine v_iinc hz dX8_mixQuestion_90 rfl (by decide) rfl ?_
    refine v_goto hz 71 dX8_mixQuestion_93 (by decide) ?_
    exact v_sub (ih (k + 1) (by omega) (by omega)) ⟨rfl, rfl, trivial⟩
set_option maxHeartbeats 4000000 in
set_option maxRecDepth 100000 in
theorem cX8_mixQuestion_ok (l : Launch) (g : Gz) (κ : Kz) (I : Iz) (R : Rz) (J : Jz) (A : Nat → Nat) (hm : LM κ R A) (pg : Nat → Nat) (n kn : Nat) (ks : Nat → Sg) (tm : Nat → Int32) (T : Sg) (qa w bd : Nat) (te td : Int32) (hs : MS I A pg n kn ks tm T qa w bd te td) (hv : ∀ i, i < kn → okQ (ks i)) (hvT : 0 < qa → okQ T) (hqa : 0 < qa) (hh : Int64) : Ct l mX8_mixQuestion 0 0 g [.ref (A 130)] κ I R (u2 J (A 130) 30 hh) (Sj κ R (fun I1 J1 => QF A I I1 ∧ J1 = u2 J (A 130) 30 (dgQ kn ks T w bd hh))) := by
  refine ct_of (by decide) (Nat.le_of_ble_eq_true rfl) ?_
  intro z hz hr hrc hrs
  have hz : Am z cX8_mixQuestion RX8 3 11 := hz
  have hr : Rt z yX8_mixQuestion none 0 0 _ := hr
  show V z 3 0 0 0 [(0, .ref (A 130))] [] κ I R (u2 J (A 130) 30 hh)
  have hk := hm.k
  have ho := hm.o
  have hR25 := hm.r25
  have hK25 := hm.k25
  have hN25 := hm.n25
  have hO25 := hm.o25
  refine v_ic (v := nI 0) hz dX8_mixQuestion_0 (by decide) ?_
  refine v_istore_n hz dX8_mixQuestion_1 (by decide) rfl ?_
  refine v_sub (lp_mQ1 hm hz (I0 := I) hs hv hvT hqa hh (fun I2 hG1 => ?_) 11 0 I (by omega) (by omega) QF.rf) ⟨rfl, rfl, trivial⟩
  refine v_ic (v := nI 0) hz dX8_mixQuestion_24 (by decide) ?_
  refine v_istore_n hz dX8_mixQuestion_25 (by decide) rfl ?_
  refine v_sub (lp_mQ2 hm hz (I0 := I2) (hG1.ms hm hs) hv hvT hqa (mxs hh (fun v => quT w bd ks T kn v) 10) (fun I3 hG2 => ?_) (kn + 1) 0 I2 (by omega) (by omega) QF.rf) ⟨rfl, rfl, trivial⟩
  refine v_aload_n hz dX8_mixQuestion_65 rfl ?_
  refine v_callVv hz lX8_251 (cX8_layRanks_ok _ _ _ _ _ _ A hm pg n kn ks tm T qa w bd te td (hG2.ms hm (hG1.ms hm hs)) hv hvT hqa) (by assumption) rfl rfl (Nat.le_of_ble_eq_true rfl) (by decide) ⟨Nat.zero_le _, Nat.zero_le _⟩ dX8_mixQuestion_66 (fun I4 q66 => ?_)
  refine v_ic (v := nI 0) hz dX8_mixQuestion_69 (by decide) ?_
  refine v_istore_n hz dX8_mixQuestion_70 (by decide) rfl ?_
  exact v_sub (lp_mQ4 hm hz (pg := pg) (n := n) (tm := tm) (qa := qa) (te := te) (td := td) _ q66.1 hs.2.1.1 q66.2 hr ⟨rfl, rfl, rfl, hG1.tr (hG2.tr q66.1), rfl⟩ _ 0 (Nat.zero_le _) (Nat.le_of_eq (Nat.zero_add _).symm)) ⟨rfl, rfl, trivial⟩
