/-! ===== the reference: the digest, whole ===== -/
set_option maxHeartbeats 4000000 in
set_option maxRecDepth 100000 in
theorem lp_dg1 {z : Zz} {κ : Kz} {I0 : Iz} {R : Rz} {J : Jz} {A : Nat → Nat} (hm : LM κ R A) (hz : Am z cX8_digest RX8 4 12) {pg : Nat → Nat} {n kn : Nat} {ks : Nat → Sg} {tm : Nat → Int32} {T : Sg} {qa w bd : Nat} {te td : Int32} (hs : MS I0 A pg n kn ks tm T qa w bd te td) (hv : ∀ i, i < kn → okQ (ks i)) (hvT : 0 < qa → okQ T) (h : Int64) (C : ∀ I, QF A I0 I → V z 4 0 0 43 [(0, .ref (A 130))] [] κ I R (u2 J (A 130) 30 (mxs h (fun k => segT (ks (k / 6)) (tm (k / 6)) w (k % 6)) (6 * kn)))) :
    ∀ (m k : Nat) (I : Iz), k ≤ 6 * kn → 6 * kn + 1 ≤ k + m → QF A I0 I → V z 4 0 0 9 [(0, .ref (A 130)), (1, .int (nI k))] [] κ I R (u2 J (A 130) 30 (mxs h (fun k => segT (ks (k / 6)) (tm (k / 6)) w (k % 6)) k)) := by
  have hk := hm.k
  have ho := hm.o
  have hR1 := hm.r1
  have hK1 := hm.k1
  have hN1 := hm.n1
  have hO1 := hm.o1
  intro m
  induction m with
  | zero => intro k I ha hm9; exact absurd hm9 (by omega)
  | succ m ih =>
  intro k I ha hm9 hQ
  have hsI := hQ.ms hm hs
  obtain ⟨⟨h0, h0a, h0b⟩, ⟨h2, h3, h4⟩, ⟨h5, h6, h7⟩, ⟨⟨h8, h8a⟩, h9, h10⟩, h11, h12⟩ := id hsI
  refine v_iload_n hz dX8_digest_9 rfl ?_
  refine v_bi (v := nI 6) hz dX8_digest_10 (by decide) ?_
  refine v_aload_n hz dX8_digest_12 rfl ?_
  refine v_getI hz fX8_107 (by assumption) dX8_digest_13 ?_
  refine v_top h3 ?_
  first | with_reducible refine v_imulN hz dX8_digest_16 ?_ | refine v_imul hz dX8_digest_16 ?_
  first | with_reducible refine v_icmp_geN hz 43 (by omega) (by omega) dX8_digest_17 (by decide) (fun c17 => ?_) (fun c17 => ?_) | refine v_icmp_ge hz 43 dX8_digest_17 (by decide) (fun c17 => ?_) (fun c17 => ?_)
  · rw [show k = 6 * kn by omega]
    exact v_sub (C I hQ) ⟨rfl, trivial⟩
  · refine v_aload_n hz dX8_digest_20 rfl ?_
    refine v_aload_n hz dX8_digest_21 rfl ?_
    refine v_iload_n hz dX8_digest_22 rfl ?_
    refine v_bi (v := nI 6) hz dX8_digest_23 (by decide) ?_
    refine v_idivN hz (by omega) (by omega) (by omega) dX8_digest_25 ?_
    refine v_iload_n hz dX8_digest_26 rfl ?_
    refine v_bi (v := nI 6) hz dX8_digest_27 (by decide) ?_
    refine v_iremN hz (by omega) (by omega) (by omega) dX8_digest_29 ?_
    refine v_callVi hz lX8_192 (cX8_segmentNow_ok _ _ _ _ _ _ A hm (k / 6) (k % 6) w (ks (k / 6)) (tm (k / 6)) (by omega) ⟨h8, h8a⟩ (h4 (k / 6) (by omega)).1 (h4 (k / 6) (by omega)).2) (by assumption) rfl rfl (Nat.le_of_ble_eq_true rfl) (by decide) ⟨Nat.zero_le _, Nat.zero_le _⟩ dX8_digest_30 (fun r I2 q30 => ?_)
    obtain ⟨rfl, eIq30⟩ := q30
    rw [eIq30]
    refine v_i2l hz dX8_digest_33 ?_
    refine v_callVj hz lX8_282 (cX8_mix_ok _ _ _ _ _ J A hm (mxs h (fun k => segT (ks (k / 6)) (tm (k / 6)) w (k % 6)) k) _) (by assumption) rfl rfl (Nat.le_of_ble_eq_true rfl) (by decide) ⟨Nat.zero_le _, Nat.zero_le _⟩ dX8_digest_34 (fun I9 J9 hj => ?_)
    obtain ⟨eI9, eJ9⟩ := hj
    rw [eI9, eJ9]
    first | refine v_iincN hz 1 dX8_digest_37 (by decide) rfl (by decide) rfl ?_ | refine v_iinc hz dX8_digest_37 rfl (by decide) rfl ?_
    refine v_goto hz 9 dX8_digest_40 (by decide) ?_
    exact v_sub (ih (k + 1) _ (by omega) (by omega) hQ) ⟨rfl, rfl, trivial⟩
set_option maxHeartbeats 4000000 in
set_option maxRecDepth 100000 in
theorem lp_dg4 {z : Zz} {κ : Kz} {I0 : Iz} {R : Rz} {J : Jz} {A : Nat → Nat} (hm : LM κ R A) (hz : Am z cX8_digest RX8 4 12) {pg : Nat → Nat} {n kn : Nat} {ks : Nat → Sg} {tm : Nat → Int32} {T : Sg} {qa w bd : Nat} {te td : Int32} (hs : MS I0 A pg n kn ks tm T qa w bd te td) (hv : ∀ i, i < kn → okQ (ks i)) (hvT : 0 < qa → okQ T) (h : Int64) {a d : Nat} (hab : a + 1 + d < kn) (C : ∀ I, QF A I0 I → V z 4 0 0 90 [(0, .ref (A 130)), (1, .int (nI a)), (2, .int (nI (a + 1 + d)))] [] κ I R (u2 J (A 130) 30 (mxs h (fun v => twT w (ks a) (ks (a + 1 + d)) v) 5))) :
    ∀ (m v : Nat) (I : Iz), v ≤ 5 → 6 ≤ v + m → QF A I0 I → V z 4 0 0 67 [(0, .ref (A 130)), (1, .int (nI a)), (2, .int (nI (a + 1 + d))), (3, .int (nI v))] [] κ I R (u2 J (A 130) 30 (mxs h (fun v => twT w (ks a) (ks (a + 1 + d)) v) v)) := by
  have hk := hm.k
  have ho := hm.o
  have hR1 := hm.r1
  have hK1 := hm.k1
  have hN1 := hm.n1
  have hO1 := hm.o1
  intro m
  induction m with
  | zero => intro v I ha hm9; exact absurd hm9 (by omega)
  | succ m ih =>
  intro v I ha hm9 hQ
  have hsI := hQ.ms hm hs
  obtain ⟨⟨h0, h0a, h0b⟩, ⟨h2, h3, h4⟩, ⟨h5, h6, h7⟩, ⟨⟨h8, h8a⟩, h9, h10⟩, h11, h12⟩ := id hsI
  refine v_iload_n hz dX8_digest_67 rfl ?_
  refine v_ic (v := nI 5) hz dX8_digest_68 (by decide) ?_
  first | with_reducible refine v_icmp_geN hz 90 (by omega) (by omega) dX8_digest_69 (by decide) (fun c69 => ?_) (fun c69 => ?_) | refine v_icmp_ge hz 90 dX8_digest_69 (by decide) (fun c69 => ?_) (fun c69 => ?_)
  · rw [show v = 5 by omega]
    exact v_sub (C I hQ) ⟨rfl, rfl, rfl, trivial⟩
  · refine v_aload_n hz dX8_digest_72 rfl ?_
    refine v_aload_n hz dX8_digest_73 rfl ?_
    refine v_iload_n hz dX8_digest_74 rfl ?_
    refine v_iload_n hz dX8_digest_75 rfl ?_
    refine v_iload_n hz dX8_digest_76 rfl ?_
    refine v_callVi hz lX8_213 (cX8_twoNow_ok _ _ _ _ _ _ A hm a (a + 1 + d) v w (ks a) (ks (a + 1 + d)) (by omega) ⟨h8, h8a⟩ (h4 a (by omega)).1 (h4 _ hab).1 (hv a (by omega)) (hv _ hab)) (by assumption) rfl rfl (Nat.le_of_ble_eq_true rfl) (by decide) ⟨Nat.zero_le _, Nat.zero_le _⟩ dX8_digest_77 (fun r I2 q77 => ?_)
    obtain ⟨rfl, hG⟩ := q77
    refine v_i2l hz dX8_digest_80 ?_
    refine v_callVj hz lX8_282 (cX8_mix_ok _ _ _ _ _ J A hm (mxs h (fun v => twT w (ks a) (ks (a + 1 + d)) v) v) _) (by assumption) rfl rfl (Nat.le_of_ble_eq_true rfl) (by decide) ⟨Nat.zero_le _, Nat.zero_le _⟩ dX8_digest_81 (fun I9 J9 hj => ?_)
    obtain ⟨eI9, eJ9⟩ := hj
    rw [eI9, eJ9]
    first | refine v_iincN hz 1 dX8_digest_84 (by decide) rfl (by decide) rfl ?_ | refine v_iinc hz dX8_digest_84 rfl (by decide) rfl ?_
    refine v_goto hz 67 dX8_digest_87 (by decide) ?_
    exact v_sub (ih (v + 1) _ (by omega) (by omega) (hQ.tr hG)) ⟨rfl, rfl, rfl, rfl, trivial⟩
set_option maxHeartbeats 4000000 in
set_option maxRecDepth 100000 in
theorem lp_dg3 {z : Zz} {κ : Kz} {I0 : Iz} {R : Rz} {J : Jz} {A : Nat → Nat} (hm : LM κ R A) (hz : Am z cX8_digest RX8 4 12) {pg : Nat → Nat} {n kn : Nat} {ks : Nat → Sg} {tm : Nat → Int32} {T : Sg} {qa w bd : Nat} {te td : Int32} (hs : MS I0 A pg n kn ks tm T qa w bd te td) (hv : ∀ i, i < kn → okQ (ks i)) (hvT : 0 < qa → okQ T) (h : Int64) {a : Nat} (ha9 : a < kn) (C : ∀ I, QF A I0 I → V z 4 0 0 96 [(0, .ref (A 130)), (1, .int (nI a))] [] κ I R (u2 J (A 130) 30 (dgI ks w h a (kn - (a + 1))))) :
    ∀ (m d : Nat) (I : Iz), a + 1 + d ≤ kn → kn + 1 ≤ a + 1 + d + m → QF A I0 I → V z 4 0 0 57 [(0, .ref (A 130)), (1, .int (nI a)), (2, .int (nI (a + 1 + d)))] [] κ I R (u2 J (A 130) 30 (dgI ks w h a d)) := by
  have hk := hm.k
  have ho := hm.o
  have hR1 := hm.r1
  have hK1 := hm.k1
  have hN1 := hm.n1
  have hO1 := hm.o1
  intro m
  induction m with
  | zero => intro d I ha hm9; exact absurd hm9 (by omega)
  | succ m ih =>
  intro d I ha hm9 hQ
  have hsI := hQ.ms hm hs
  obtain ⟨⟨h0, h0a, h0b⟩, ⟨h2, h3, h4⟩, ⟨h5, h6, h7⟩, ⟨⟨h8, h8a⟩, h9, h10⟩, h11, h12⟩ := id hsI
  refine v_iload_n hz dX8_digest_57 rfl ?_
  refine v_aload_n hz dX8_digest_58 rfl ?_
  refine v_getI hz fX8_107 (by assumption) dX8_digest_59 ?_
  refine v_top h3 ?_
  first | with_reducible refine v_icmp_geN hz 96 (by omega) (by omega) dX8_digest_62 (by decide) (fun c62 => ?_) (fun c62 => ?_) | refine v_icmp_ge hz 96 dX8_digest_62 (by decide) (fun c62 => ?_) (fun c62 => ?_)
  · rw [show d = kn - (a + 1) by omega]
    exact v_sub (C I hQ) ⟨rfl, rfl, trivial⟩
  · refine v_ic (v := nI 0) hz dX8_digest_65 (by decide) ?_
    refine v_istore_n hz dX8_digest_66 (by decide) rfl ?_
    refine v_sub (lp_dg4 hm hz (I0 := I) hsI hv hvT (dgI ks w h a d) (a := a) (d := d) (by omega) (fun I5 hG => ?_) 6 0 I (by omega) (by omega) QF.rf) ⟨rfl, rfl, rfl, rfl, trivial⟩
    first | refine v_iincN hz 1 dX8_digest_90 (by decide) rfl (by decide) rfl ?_ | refine v_iinc hz dX8_digest_90 rfl (by decide) rfl ?_
    refine v_goto hz 57 dX8_digest_93 (by decide) ?_
    exact v_sub (ih (d + 1) _ (by omega) (by omega) (hQ.tr hG)) ⟨rfl, rfl, rfl, trivial⟩
set_option maxHeartbeats 4000000 in
set_option maxRecDepth 100000 in
theorem lp_dg2 {z : Zz} {κ : Kz} {I0 : Iz} {R : Rz} {J : Jz} {A : Nat → Nat} (hm : LM κ R A) (hz : Am z cX8_digest RX8 4 12) {pg : Nat → Nat} {n kn : Nat} {ks : Nat → Sg} {tm : Nat → Int32} {T : Sg} {qa w bd : Nat} {te td : Int32} (hs : MS I0 A pg n kn ks tm T qa w bd te td) (hv : ∀ i, i < kn → okQ (ks i)) (hvT : 0 < qa → okQ T) (h : Int64) (C : ∀ I, QF A I0 I → V z 4 0 0 102 [(0, .ref (A 130))] [] κ I R (u2 J (A 130) 30 (dgP ks w kn h kn))) :
    ∀ (m a : Nat) (I : Iz), a ≤ kn → kn + 1 ≤ a + m → QF A I0 I → V z 4 0 0 45 [(0, .ref (A 130)), (1, .int (nI a))] [] κ I R (u2 J (A 130) 30 (dgP ks w kn h a)) := by
  have hk := hm.k
  have ho := hm.o
  have hR1 := hm.r1
  have hK1 := hm.k1
  have hN1 := hm.n1
  have hO1 := hm.o1
  intro m
  induction m with
  | zero => intro a I ha hm9; exact absurd hm9 (by omega)
  | succ m ih =>
  intro a I ha hm9 hQ
  have hsI := hQ.ms hm hs
  obtain ⟨⟨h0, h0a, h0b⟩, ⟨h2, h3, h4⟩, ⟨h5, h6, h7⟩, ⟨⟨h8, h8a⟩, h9, h10⟩, h11, h12⟩ := id hsI
  refine v_iload_n hz dX8_digest_45 rfl ?_
  refine v_aload_n hz dX8_digest_46 rfl ?_
  refine v_getI hz fX8_107 (by assumption) dX8_digest_47 ?_
  refine v_top h3 ?_
  first | with_reducible refine v_icmp_geN hz 102 (by omega) (by omega) dX8_digest_50 (by decide) (fun c50 => ?_) (fun c50 => ?_) | refine v_icmp_ge hz 102 dX8_digest_50 (by decide) (fun c50 => ?_) (fun c50 => ?_)
  · rw [show a = kn by omega]
    exact v_sub (C I hQ) ⟨rfl, trivial⟩
  · refine v_iload_n hz dX8_digest_53 rfl ?_
    refine v_ic (v := nI 1) hz dX8_digest_54 (by decide) ?_
    first | with_reducible refine v_iaddN hz dX8_digest_55 ?_ | refine v_iadd hz dX8_digest_55 ?_
    refine v_istore_n hz dX8_digest_56 (by decide) rfl ?_
    refine v_sub (lp_dg3 hm hz (I0 := I) hsI hv hvT (dgP ks w kn h a) (a := a) (by omega) (fun I5 hG => ?_) kn 0 I (by omega) (by omega) QF.rf) ⟨rfl, rfl, rfl, trivial⟩
    first | refine v_iincN hz 1 dX8_digest_96 (by decide) rfl (by decide) rfl ?_ | refine v_iinc hz dX8_digest_96 rfl (by decide) rfl ?_
    refine v_goto hz 45 dX8_digest_99 (by decide) ?_
    exact v_sub (ih (a + 1) _ (by omega) (by omega) (hQ.tr hG)) ⟨rfl, rfl, trivial⟩
set_option maxHeartbeats 4000000 in
set_option maxRecDepth 100000 in
theorem lp_dg5 {z : Zz} {κ : Kz} {I0 : Iz} {R : Rz} {J : Jz} {A : Nat → Nat} (hm : LM κ R A) (hz : Am z cX8_digest RX8 4 12) {pg : Nat → Nat} {n kn : Nat} {ks : Nat → Sg} {tm : Nat → Int32} {T : Sg} {qa w bd : Nat} {te td : Int32} (hs : MS I0 A pg n kn ks tm T qa w bd te td) (hv : ∀ i, i < kn → okQ (ks i)) (hvT : 0 < qa → okQ T) (h : Int64) (C : ∀ I, QF A I0 I → V z 4 0 0 140 [(0, .ref (A 130))] [] κ I R (u2 J (A 130) 30 (mxs h (fun k => nI (pg k)) n))) :
    ∀ (m k : Nat) (I : Iz), k ≤ n → n + 1 ≤ k + m → QF A I0 I → V z 4 0 0 115 [(0, .ref (A 130)), (1, .int (nI k))] [] κ I R (u2 J (A 130) 30 (mxs h (fun k => nI (pg k)) k)) := by
  have hk := hm.k
  have ho := hm.o
  have hR1 := hm.r1
  have hK1 := hm.k1
  have hN1 := hm.n1
  have hO1 := hm.o1
  intro m
  induction m with
  | zero => intro k I ha hm9; exact absurd hm9 (by omega)
  | succ m ih =>
  intro k I ha hm9 hQ
  have hsI := hQ.ms hm hs
  obtain ⟨⟨h0, h0a, h0b⟩, ⟨h2, h3, h4⟩, ⟨h5, h6, h7⟩, ⟨⟨h8, h8a⟩, h9, h10⟩, h11, h12⟩ := id hsI
  refine v_iload_n hz dX8_digest_115 rfl ?_
  refine v_aload_n hz dX8_digest_116 rfl ?_
  refine v_getI hz fX8_79 (by assumption) dX8_digest_117 ?_
  refine v_top h0a ?_
  first | with_reducible refine v_icmp_geN hz 140 (by omega) (by omega) dX8_digest_120 (by decide) (fun c120 => ?_) (fun c120 => ?_) | refine v_icmp_ge hz 140 dX8_digest_120 (by decide) (fun c120 => ?_) (fun c120 => ?_)
  · rw [show k = n by omega]
    exact v_sub (C I hQ) ⟨rfl, trivial⟩
  · refine v_aload_n hz dX8_digest_123 rfl ?_
    refine v_aload_n hz dX8_digest_124 rfl ?_
    refine v_getR hz fX8_7 (by assumption) (by assumption) dX8_digest_125 ?_
    refine v_iload_n hz dX8_digest_128 rfl ?_
    refine v_ialdN hz (by assumption) (by assumption) (by omega) (by decide) dX8_digest_129 ?_
    refine v_top (h0b k (by omega)).1 ?_
    refine v_i2l hz dX8_digest_130 ?_
    refine v_callVj hz lX8_282 (cX8_mix_ok _ _ _ _ _ J A hm (mxs h (fun k => nI (pg k)) k) _) (by assumption) rfl rfl (Nat.le_of_ble_eq_true rfl) (by decide) ⟨Nat.zero_le _, Nat.zero_le _⟩ dX8_digest_131 (fun I9 J9 hj => ?_)
    obtain ⟨eI9, eJ9⟩ := hj
    rw [eI9, eJ9]
    first | refine v_iincN hz 1 dX8_digest_134 (by decide) rfl (by decide) rfl ?_ | refine v_iinc hz dX8_digest_134 rfl (by decide) rfl ?_
    refine v_goto hz 115 dX8_digest_137 (by decide) ?_
    exact v_sub (ih (k + 1) _ (by omega) (by omega) hQ) ⟨rfl, rfl, trivial⟩
set_option maxHeartbeats 4000000 in
set_option maxRecDepth 100000 in
theorem lp_dg6 {z : Zz} {κ : Kz} {I0 : Iz} {R : Rz} {J : Jz} {A : Nat → Nat} (hm : LM κ R A) (hz : Am z cX8_digest RX8 4 12) {pg : Nat → Nat} {n kn : Nat} {ks : Nat → Sg} {tm : Nat → Int32} {T : Sg} {qa w bd : Nat} {te td : Int32} (hs : MS I0 A pg n kn ks tm T qa w bd te td) (hv : ∀ i, i < kn → okQ (ks i)) (hvT : 0 < qa → okQ T) (h : Int64) (C : ∀ I, QF A I0 I → V z 4 0 0 164 [(0, .ref (A 130))] [] κ I R (u2 J (A 130) 30 (mxs h (fun v => cntR n kn ks qa w bd te td (nI v)) 8))) :
    ∀ (m v : Nat) (I : Iz), v ≤ 8 → 9 ≤ v + m → QF A I0 I → V z 4 0 0 142 [(0, .ref (A 130)), (1, .int (nI v))] [] κ I R (u2 J (A 130) 30 (mxs h (fun v => cntR n kn ks qa w bd te td (nI v)) v)) := by
  have hk := hm.k
  have ho := hm.o
  have hR1 := hm.r1
  have hK1 := hm.k1
  have hN1 := hm.n1
  have hO1 := hm.o1
  intro m
  induction m with
  | zero => intro v I ha hm9; exact absurd hm9 (by omega)
  | succ m ih =>
  intro v I ha hm9 hQ
  have hsI := hQ.ms hm hs
  obtain ⟨⟨h0, h0a, h0b⟩, ⟨h2, h3, h4⟩, ⟨h5, h6, h7⟩, ⟨⟨h8, h8a⟩, h9, h10⟩, h11, h12⟩ := id hsI
  refine v_iload_n hz dX8_digest_142 rfl ?_
  refine v_bi (v := nI 8) hz dX8_digest_143 (by decide) ?_
  first | with_reducible refine v_icmp_geN hz 164 (by omega) (by omega) dX8_digest_145 (by decide) (fun c145 => ?_) (fun c145 => ?_) | refine v_icmp_ge hz 164 dX8_digest_145 (by decide) (fun c145 => ?_) (fun c145 => ?_)
  · rw [show v = 8 by omega]
    exact v_sub (C I hQ) ⟨rfl, trivial⟩
  · refine v_aload_n hz dX8_digest_148 rfl ?_
    refine v_aload_n hz dX8_digest_149 rfl ?_
    refine v_iload_n hz dX8_digest_150 rfl ?_
    refine v_callVi hz lX8_273 (cX8_howMany_ok _ _ _ _ _ _ A hm pg n kn ks tm T qa w bd te td hsI hv (nI v)) (by assumption) rfl rfl (Nat.le_of_ble_eq_true rfl) (by decide) ⟨Nat.zero_le _, Nat.zero_le _⟩ dX8_digest_151 (fun r I2 q151 => ?_)
    obtain ⟨rfl, hG⟩ := q151
    refine v_i2l hz dX8_digest_154 ?_
    refine v_callVj hz lX8_282 (cX8_mix_ok _ _ _ _ _ J A hm (mxs h (fun v => cntR n kn ks qa w bd te td (nI v)) v) _) (by assumption) rfl rfl (Nat.le_of_ble_eq_true rfl) (by decide) ⟨Nat.zero_le _, Nat.zero_le _⟩ dX8_digest_155 (fun I9 J9 hj => ?_)
    obtain ⟨eI9, eJ9⟩ := hj
    rw [eI9, eJ9]
    first | refine v_iincN hz 1 dX8_digest_158 (by decide) rfl (by decide) rfl ?_ | refine v_iinc hz dX8_digest_158 rfl (by decide) rfl ?_
    refine v_goto hz 142 dX8_digest_161 (by decide) ?_
    exact v_sub (ih (v + 1) _ (by omega) (by omega) (hQ.tr hG)) ⟨rfl, rfl, trivial⟩
set_option maxHeartbeats 4000000 in
set_option maxRecDepth 100000 in
theorem cX8_digest_ok (l : Launch) (g : Gz) (κ : Kz) (I : Iz) (R : Rz) (J : Jz) (A : Nat → Nat) (hm : LM κ R A) (pg : Nat → Nat) (n kn : Nat) (ks : Nat → Sg) (tm : Nat → Int32) (T : Sg) (qa w bd : Nat) (te td : Int32) (hs : MS I A pg n kn ks tm T qa w bd te td) (hv : ∀ i, i < kn → okQ (ks i)) (hvT : 0 < qa → okQ T) : Ct l mX8_digest 0 0 g [.ref (A 130)] κ I R J (Sk κ R (fun r I1 J1 => QF A I I1 ∧ r = digF pg n kn ks tm T qa w bd te td ∧ J1 = u2 J (A 130) 30 (digF pg n kn ks tm T qa w bd te td))) := by
  refine ct_of (by decide) (Nat.le_of_ble_eq_true rfl) ?_
  intro z hz hr hrc hrs
  have hz : Am z cX8_digest RX8 4 12 := hz
  have hr : Rt z yX8_digest (some .long) 0 0 _ := hr
  show V z 4 0 0 0 [(0, .ref (A 130))] [] κ I R J
  have hk := hm.k
  have ho := hm.o
  have hR1 := hm.r1
  have hK1 := hm.k1
  have hN1 := hm.n1
  have hO1 := hm.o1
  refine v_aload_n hz dX8_digest_0 rfl ?_
  refine v_ldc2 (v := 1637) hz (tg_mem 1077 (by decide +kernel) rfl) dX8_digest_1 ?_
  refine v_putJ hz fX8_278 (by assumption) dX8_digest_4 ?_
  refine v_ic (v := nI 0) hz dX8_digest_7 (by decide) ?_
  refine v_istore_n hz dX8_digest_8 (by decide) rfl ?_
  refine v_sub (lp_dg1 hm hz (I0 := I) hs hv hvT 1637 (fun I2 hG1 => ?_) (6 * kn + 1) 0 I (by omega) (by omega) QF.rf) ⟨rfl, rfl, trivial⟩
  refine v_ic (v := nI 0) hz dX8_digest_43 (by decide) ?_
  refine v_istore_n hz dX8_digest_44 (by decide) rfl ?_
  refine v_sub (lp_dg2 hm hz (I0 := I2) (hG1.ms hm hs) hv hvT (dgS ks tm w (6 * kn)) (fun I3 hG2 => ?_) (kn + 1) 0 I2 (by omega) (by omega) QF.rf) ⟨rfl, rfl, trivial⟩
  refine v_aload_n hz dX8_digest_102 rfl ?_
  refine v_getI hz fX8_126 (by assumption) dX8_digest_103 ?_
  refine v_top (hG2.ms hm (hG1.ms hm hs)).2.2.1.1 ?_
  first | with_reducible refine v_if_eqB hz 113 dX8_digest_106 (by decide) (fun c106 => ?_) (fun c106 => ?_) | with_reducible refine v_if_eqN hz 113 (by omega) dX8_digest_106 (by decide) (fun c106 => ?_) (fun c106 => ?_) | refine v_if_eq hz 113 dX8_digest_106 (by decide) (fun c106 => ?_) (fun c106 => ?_)
  · refine v_ic (v := nI 0) hz dX8_digest_113 (by decide) ?_
    refine v_istore_n hz dX8_digest_114 (by decide) rfl ?_
    refine v_sub (lp_dg5 hm hz ((hG1.tr hG2).ms hm hs) hv hvT (dgP ks w kn (dgS ks tm w (6 * kn)) kn) (fun I6 hG5 => ?_) (n + 1) 0 _ (by omega) (by omega) QF.rf) ⟨rfl, rfl, trivial⟩
    refine v_ic (v := nI 0) hz dX8_digest_140 (by decide) ?_
    refine v_istore_n hz dX8_digest_141 (by decide) rfl ?_
    refine v_sub (lp_dg6 hm hz (I0 := I6) (hG5.ms hm ((hG1.tr hG2).ms hm hs)) hv hvT (mxs (dgP ks w kn (dgS ks tm w (6 * kn)) kn) (fun k => nI (pg k)) n) (fun I7 hG6 => ?_) 9 0 I6 (by omega) (by omega) QF.rf) ⟨rfl, rfl, trivial⟩
    refine v_aload_n hz dX8_digest_164 rfl ?_
    refine v_getJ hz fX8_278 (by assumption) dX8_digest_165 ?_
    refine v_topl (y := digF pg n kn ks tm T qa w bd te td) (by rw [u2_eq]; unfold digF; rw [if_neg c106]) ?_
    exact v_lret0 hz hr dX8_digest_168 ⟨rfl, rfl, _, rfl, (hG1.tr hG2).tr (hG5.tr hG6), rfl, by unfold digF; rw [if_neg c106]⟩
  · refine v_aload_n hz dX8_digest_109 rfl ?_
    refine v_callVj hz lX8_288 (cX8_mixQuestion_ok _ _ _ _ _ J A hm pg n kn ks tm T qa w bd te td (hG2.ms hm (hG1.ms hm hs)) hv hvT c106 (dgP ks w kn (dgS ks tm w (6 * kn)) kn)) (by assumption) rfl rfl (Nat.le_of_ble_eq_true rfl) (by decide) ⟨Nat.zero_le _, Nat.zero_le _⟩ dX8_digest_110 (fun I9 J9 hj => ?_)
    obtain ⟨hG9, eJ9⟩ := hj
    rw [eJ9]
    refine v_ic (v := nI 0) hz dX8_digest_113 (by decide) ?_
    refine v_istore_n hz dX8_digest_114 (by decide) rfl ?_
    refine v_sub (lp_dg5 hm hz (((hG1.tr hG2).tr hG9).ms hm hs) hv hvT (dgQ kn ks T w bd (dgP ks w kn (dgS ks tm w (6 * kn)) kn)) (fun I6 hG5 => ?_) (n + 1) 0 _ (by omega) (by omega) QF.rf) ⟨rfl, rfl, trivial⟩
    refine v_ic (v := nI 0) hz dX8_digest_140 (by decide) ?_
    refine v_istore_n hz dX8_digest_141 (by decide) rfl ?_
    refine v_sub (lp_dg6 hm hz (I0 := I6) (hG5.ms hm (((hG1.tr hG2).tr hG9).ms hm hs)) hv hvT (mxs (dgQ kn ks T w bd (dgP ks w kn (dgS ks tm w (6 * kn)) kn)) (fun k => nI (pg k)) n) (fun I7 hG6 => ?_) 9 0 I6 (by omega) (by omega) QF.rf) ⟨rfl, rfl, trivial⟩
    refine v_aload_n hz dX8_digest_164 rfl ?_
    refine v_getJ hz fX8_278 (by assumption) dX8_digest_165 ?_
    refine v_topl (y := digF pg n kn ks tm T qa w bd te td) (by rw [u2_eq]; unfold digF; rw [if_pos c106]) ?_
    exact v_lret0 hz hr dX8_digest_168 ⟨rfl, rfl, _, rfl, ((hG1.tr hG2).tr hG9).tr (hG5.tr hG6), rfl, by unfold digF; rw [if_pos c106]⟩
