/-! ===== the class: the digest ===== -/
def sgF (ks : Nat → Sg) (tm : Nat → Int32) (w k : Nat) : Int32 := segT (ks (k / 6)) (tm (k / 6)) w (k % 6)
set_option maxHeartbeats 4000000 in
set_option maxRecDepth 100000 in
theorem lp_sg2 {z : Zz} {κ : Kz} {I : Iz} {R : Rz} {J : Jz} {A sb : Nat → Nat} (hn : LNg κ R A sb) (hz : Am z cX7_mixSegments RX7 7 3) {pg : Nat → Nat} {n kn : Nat} {ks : Nat → Sg} {tm : Nat → Int32} {T : Sg} {qa w bd : Nat} {te td : Int32} (hs : CS I A sb pg n kn ks tm T qa w bd te td) {h : Int64} {i : Nat} (hik : i < kn) (K : V z 7 0 0 51 [(0, .ref (A 9)), (3, .long (mxs h (sgF ks tm w) (6 * i + 6))), (5, .int (nI i))] [] κ I R J) :
    ∀ (m v : Nat), v ≤ 6 → 7 ≤ v + m → V z 7 0 0 17 [(0, .ref (A 9)), (3, .long (mxs h (sgF ks tm w) (6 * i + v))), (5, .int (nI i)), (6, .int (nI v))] [] κ I R J := by
  obtain ⟨k9, o9, ⟨r0, r1, r2, r3, r4, r5, r6⟩, ⟨k10, n10, o10⟩, hsh, hgap, hp, hx, ha, hc, hf, hq⟩ := id hn
  have kp := hp.1
  have op := hp.2.2.2.2.1
  have op2 := hp.2.2.2.2.2
  have kx := hx.1
  have ka := ha.1
  have kc := hc.1
  have kf := hf.1
  have kq := hq.1
  obtain ⟨h0, ⟨h2, h3, h4⟩, ⟨h5, h6⟩, ⟨h8, h8a, h8b, h9, h10⟩, ⟨h11, h12⟩, h13, ⟨h14, h15⟩⟩ := id hs
  obtain ⟨ra, loa, hia, ga⟩ := hsh i (by omega)
  obtain ⟨ka, oa, ⟨ra0, ka1, na1, oa1⟩, -, ra8⟩ := id ga
  obtain ⟨hga, hta⟩ := h4 i (by omega)
  obtain ⟨⟨ca1, ca2, ca3, ca8⟩, Gra, ca4, ca5⟩ := id hga
  intro m
  induction m with
  | zero => intro v hv9 hm9; exact absurd hm9 (by omega)
  | succ m ih =>
  intro v hv9 hm9
  refine v_iload hz dX7_mixSegments_17 rfl ?_
  refine v_bi (v := nI 6) hz dX7_mixSegments_19 (by decide) ?_
  with_reducible refine v_icmp_geN hz 51 (by omega) (by omega) dX7_mixSegments_21 (by decide) (fun c21 => ?_) (fun c21 => ?_)
  · have e : v = 6 := by omega
    subst e
    exact v_sub K ⟨rfl, rfl, rfl, trivial⟩
  · refine v_lload_n hz dX7_mixSegments_24 rfl ?_
    refine v_aload_n hz dX7_mixSegments_25 rfl ?_
    refine v_getR hz fX7_18 (by assumption) (by assumption) dX7_mixSegments_26 ?_
    refine v_iload hz dX7_mixSegments_29 rfl ?_
    refine v_aaldN hz (by omega) (by assumption) (by omega) (by decide) ra dX7_mixSegments_31 ?_
    refine v_iload hz dX7_mixSegments_32 rfl ?_
    refine v_aload_n hz dX7_mixSegments_34 rfl ?_
    refine v_getI hz fX7_55 (by assumption) dX7_mixSegments_35 ?_
    refine v_top h8 ?_
    refine v_callVi hz lX7_128 (cX5_tell_ok _ _ _ _ _ _ A (sb i) ga w v (ks i) (tm i) (by omega) ca2 ca3 ca4.2.1 hta) (by assumption) rfl rfl (Nat.le_of_ble_eq_true rfl) (by decide) ⟨Nat.zero_le _, Nat.zero_le _⟩ dX7_mixSegments_38 (fun r I2 q38 => ?_)
    obtain ⟨rfl, eIq38⟩ := q38
    rw [eIq38]
    refine v_top (y := sgF ks tm w (6 * i + v)) (by unfold sgF; rw [show (6 * i + v) / 6 = i by omega, show (6 * i + v) % 6 = v by omega]) ?_
    refine v_callSl hz lX7_216 (cX7_mix_ok _ _ _ _ _ _ _ _) rfl rfl (Nat.le_of_ble_eq_true rfl) (by decide) ⟨Nat.zero_le _, Nat.zero_le _⟩ dX7_mixSegments_41 (fun r I9 qm => ?_)
    obtain ⟨rfl, eIqm⟩ := qm
    rw [eIqm]
    refine v_lstore_n hz dX7_mixSegments_44 (by decide) rfl ?_
    first | refine v_iincN hz 1 dX7_mixSegments_45 (by decide) rfl (by decide) rfl ?_ | refine v_iinc hz dX7_mixSegments_45 rfl (by decide) rfl ?_
    refine v_goto hz 17 dX7_mixSegments_48 (by decide) ?_
    exact v_sub (ih (v + 1) (by omega) (by omega)) ⟨rfl, rfl, rfl, rfl, trivial⟩
set_option maxHeartbeats 4000000 in
set_option maxRecDepth 100000 in
theorem lp_sg1 {z : Zz} {κ : Kz} {I : Iz} {R : Rz} {J : Jz} {A sb : Nat → Nat} (hn : LNg κ R A sb) (hz : Am z cX7_mixSegments RX7 7 3) {pg : Nat → Nat} {n kn : Nat} {ks : Nat → Sg} {tm : Nat → Int32} {T : Sg} {qa w bd : Nat} {te td : Int32} (hs : CS I A sb pg n kn ks tm T qa w bd te td) {h : Int64} (hr : Rt z yX7_mixSegments (some .long) 0 0 (Sl κ R J (fun r I1 => r = mxs h (sgF ks tm w) (6 * kn) ∧ I1 = I))) :
    ∀ (m i : Nat), i ≤ kn → kn + 1 ≤ i + m → V z 7 0 0 5 [(0, .ref (A 9)), (3, .long (mxs h (sgF ks tm w) (6 * i))), (5, .int (nI i))] [] κ I R J := by
  obtain ⟨k9, o9, ⟨r0, r1, r2, r3, r4, r5, r6⟩, ⟨k10, n10, o10⟩, hsh, hgap, hp, hx, ha, hc, hf, hq⟩ := id hn
  have kp := hp.1
  have op := hp.2.2.2.2.1
  have op2 := hp.2.2.2.2.2
  have kx := hx.1
  have ka := ha.1
  have kc := hc.1
  have kf := hf.1
  have kq := hq.1
  obtain ⟨h0, ⟨h2, h3, h4⟩, ⟨h5, h6⟩, ⟨h8, h8a, h8b, h9, h10⟩, ⟨h11, h12⟩, h13, ⟨h14, h15⟩⟩ := id hs
  intro m
  induction m with
  | zero => intro i hv9 hm9; exact absurd hm9 (by omega)
  | succ m ih =>
  intro i hv9 hm9
  refine v_iload hz dX7_mixSegments_5 rfl ?_
  refine v_aload_n hz dX7_mixSegments_7 rfl ?_
  refine v_getI hz fX7_87 (by assumption) dX7_mixSegments_8 ?_
  refine v_top h3 ?_
  with_reducible refine v_icmp_geN hz 57 (by omega) (by omega) dX7_mixSegments_11 (by decide) (fun c11 => ?_) (fun c11 => ?_)
  · refine v_lload_n hz dX7_mixSegments_57 rfl ?_
    exact v_lret hz hr dX7_mixSegments_58 ⟨by rw [show kn = i by omega], rfl⟩
  · refine v_ic (v := nI 0) hz dX7_mixSegments_14 (by decide) ?_
    refine v_istore hz dX7_mixSegments_15 (by decide) rfl ?_
    refine v_sub (lp_sg2 hn hz hs (show i < kn by omega) ?_ 7 0 (by omega) (by omega)) ⟨rfl, rfl, rfl, rfl, trivial⟩
    first | refine v_iincN hz 1 dX7_mixSegments_51 (by decide) rfl (by decide) rfl ?_ | refine v_iinc hz dX7_mixSegments_51 rfl (by decide) rfl ?_
    refine v_goto hz 5 dX7_mixSegments_54 (by decide) ?_
    exact v_sub (ih (i + 1) (by omega) (by omega)) ⟨rfl, rfl, rfl, trivial⟩
set_option maxHeartbeats 4000000 in
set_option maxRecDepth 100000 in
theorem cX7_mixSegments_ok (l : Launch) (g : Gz) (κ : Kz) (I : Iz) (R : Rz) (J : Jz) (A sb : Nat → Nat) (hn : LNg κ R A sb) (pg : Nat → Nat) (n kn : Nat) (ks : Nat → Sg) (tm : Nat → Int32) (T : Sg) (qa w bd : Nat) (te td : Int32) (hs : CS I A sb pg n kn ks tm T qa w bd te td) (h : Int64) : Ct l mX7_mixSegments 0 0 g [.ref (A 9), .long h] κ I R J (Sl κ R J (fun r I1 => r = mxs h (sgF ks tm w) (6 * kn) ∧ I1 = I)) := by
  refine ct_of (by decide) (Nat.le_of_ble_eq_true rfl) ?_
  intro z hz hr hrc hrs
  have hz : Am z cX7_mixSegments RX7 7 3 := hz
  have hr : Rt z yX7_mixSegments (some .long) 0 0 _ := hr
  show V z 7 0 0 0 [(0, .ref (A 9)), (1, .long h)] [] κ I R J
  obtain ⟨k9, o9, ⟨r0, r1, r2, r3, r4, r5, r6⟩, ⟨k10, n10, o10⟩, hsh, hgap, hp, hx, ha, hc, hf, hq⟩ := id hn
  have kp := hp.1
  have op := hp.2.2.2.2.1
  have op2 := hp.2.2.2.2.2
  have kx := hx.1
  have ka := ha.1
  have kc := hc.1
  have kf := hf.1
  have kq := hq.1
  obtain ⟨h0, ⟨h2, h3, h4⟩, ⟨h5, h6⟩, ⟨h8, h8a, h8b, h9, h10⟩, ⟨h11, h12⟩, h13, ⟨h14, h15⟩⟩ := id hs
  refine v_lload_n hz dX7_mixSegments_0 rfl ?_
  refine v_lstore_n hz dX7_mixSegments_1 (by decide) rfl ?_
  refine v_ic (v := nI 0) hz dX7_mixSegments_2 (by decide) ?_
  refine v_istore hz dX7_mixSegments_3 (by decide) rfl ?_
  exact v_sub (lp_sg1 hn hz hs hr (kn + 1) 0 (by omega) (by omega)) ⟨rfl, rfl, rfl, trivial⟩
set_option maxHeartbeats 4000000 in
set_option maxRecDepth 100000 in
theorem lp_pr3 {z : Zz} {κ : Kz} {I : Iz} {R : Rz} {J : Jz} {A sb : Nat → Nat} (hn : LNg κ R A sb) (hz : Am z cX7_mixPairs RX7 8 5) {ks : Nat → Sg} {w a b : Nat} (hcm : cmpC I A 60 w (ks a) (ks b)) {h : Int64} (K : V z 8 0 0 87 [(0, .ref (A 9)), (3, .long (mxs h (fun v => twT w (ks a) (ks b) v) 5)), (5, .int (nI a)), (6, .int (nI b))] [] κ I R J) :
    ∀ (m v : Nat), v ≤ 5 → 6 ≤ v + m → V z 8 0 0 61 [(0, .ref (A 9)), (3, .long (mxs h (fun v => twT w (ks a) (ks b) v) v)), (5, .int (nI a)), (6, .int (nI b)), (7, .int (nI v))] [] κ I R J := by
  obtain ⟨k9, o9, ⟨r0, r1, r2, r3, r4, r5, r6⟩, ⟨k10, n10, o10⟩, hsh, hgap, hp, hx, ha, hc, hf, hq⟩ := id hn
  have kp := hp.1
  have op := hp.2.2.2.2.1
  have op2 := hp.2.2.2.2.2
  have kx := hx.1
  have ka := ha.1
  have kc := hc.1
  have kf := hf.1
  have kq := hq.1
  intro m
  induction m with
  | zero => intro v hv9 hm9; exact absurd hm9 (by omega)
  | succ m ih =>
  intro v hv9 hm9
  refine v_iload hz dX7_mixPairs_61 rfl ?_
  refine v_ic (v := nI 5) hz dX7_mixPairs_63 (by decide) ?_
  with_reducible refine v_icmp_geN hz 87 (by omega) (by omega) dX7_mixPairs_64 (by decide) (fun c64 => ?_) (fun c64 => ?_)
  · have e : v = 5 := by omega
    subst e
    exact v_sub K ⟨rfl, rfl, rfl, rfl, trivial⟩
  · refine v_lload_n hz dX7_mixPairs_67 rfl ?_
    refine v_aload_n hz dX7_mixPairs_68 rfl ?_
    refine v_getR hz fX7_44 (by assumption) (by assumption) dX7_mixPairs_69 ?_
    refine v_iload hz dX7_mixPairs_72 rfl ?_
    refine v_callVi hz lX7_155 (cX1_tell5_ok _ _ _ _ _ _ A 60 hc v (by omega)) (by assumption) rfl rfl (Nat.le_of_ble_eq_true rfl) (by decide) ⟨Nat.zero_le _, Nat.zero_le _⟩ dX7_mixPairs_74 (fun r I3 q74 => ?_)
    obtain ⟨rfl, eIq74⟩ := q74
    rw [eIq74]
    refine v_top (tw_tell hcm (by omega)) ?_
    refine v_callSl hz lX7_216 (cX7_mix_ok _ _ _ _ _ _ _ _) rfl rfl (Nat.le_of_ble_eq_true rfl) (by decide) ⟨Nat.zero_le _, Nat.zero_le _⟩ dX7_mixPairs_77 (fun r I9 qm => ?_)
    obtain ⟨rfl, eIqm⟩ := qm
    rw [eIqm]
    refine v_lstore_n hz dX7_mixPairs_80 (by decide) rfl ?_
    first | refine v_iincN hz 1 dX7_mixPairs_81 (by decide) rfl (by decide) rfl ?_ | refine v_iinc hz dX7_mixPairs_81 rfl (by decide) rfl ?_
    refine v_goto hz 61 dX7_mixPairs_84 (by decide) ?_
    exact v_sub (ih (v + 1) (by omega) (by omega)) ⟨rfl, rfl, rfl, rfl, rfl, trivial⟩
set_option maxHeartbeats 4000000 in
set_option maxRecDepth 100000 in
theorem lp_pr2 {z : Zz} {κ : Kz} {I0 : Iz} {R : Rz} {J : Jz} {A sb : Nat → Nat} (hn : LNg κ R A sb) (hz : Am z cX7_mixPairs RX7 8 5) {pg : Nat → Nat} {n kn : Nat} {ks : Nat → Sg} {tm : Nat → Int32} {T : Sg} {qa w bd : Nat} {te td : Int32} (hv : ∀ i, i < kn → okQ (ks i)) {h : Int64} {a : Nat} (hak : a < kn) (K : ∀ I, Ft κ cT I0 I → CS I A sb pg n kn ks tm T qa w bd te td → V z 8 0 0 93 [(0, .ref (A 9)), (3, .long (dgI ks w h a (kn - (a + 1)))), (5, .int (nI a))] [] κ I R J) :
    ∀ (m d : Nat) (I : Iz), a + 1 + d ≤ kn → kn + 1 ≤ a + 1 + d + m → Ft κ cT I0 I → CS I A sb pg n kn ks tm T qa w bd te td → V z 8 0 0 20 [(0, .ref (A 9)), (3, .long (dgI ks w h a d)), (5, .int (nI a)), (6, .int (nI (a + 1 + d)))] [] κ I R J := by
  obtain ⟨k9, o9, ⟨r0, r1, r2, r3, r4, r5, r6⟩, ⟨k10, n10, o10⟩, hsh, hgap, hp, hx, ha, hc, hf, hq⟩ := id hn
  have kp := hp.1
  have op := hp.2.2.2.2.1
  have op2 := hp.2.2.2.2.2
  have kx := hx.1
  have ka := ha.1
  have kc := hc.1
  have kf := hf.1
  have kq := hq.1
  intro m
  induction m with
  | zero => intro d I hv9 hm9; exact absurd hm9 (by omega)
  | succ m ih =>
  intro d I hv9 hm9 hF hs
  obtain ⟨h0, ⟨h2, h3, h4⟩, ⟨h5, h6⟩, ⟨h8, h8a, h8b, h9, h10⟩, ⟨h11, h12⟩, h13, ⟨h14, h15⟩⟩ := id hs
  refine v_iload hz dX7_mixPairs_20 rfl ?_
  refine v_aload_n hz dX7_mixPairs_22 rfl ?_
  refine v_getI hz fX7_87 (by assumption) dX7_mixPairs_23 ?_
  refine v_top h3 ?_
  with_reducible refine v_icmp_geN hz 93 (by omega) (by omega) dX7_mixPairs_26 (by decide) (fun c26 => ?_) (fun c26 => ?_)
  · have e : d = kn - (a + 1) := by omega
    rw [e]
    exact v_sub (K I hF hs) ⟨rfl, rfl, rfl, trivial⟩
  · obtain ⟨ra, loa, hia, ga⟩ := hsh a (by omega)
    obtain ⟨ka, oa, ⟨ra0, ka1, na1, oa1⟩, -, ra8⟩ := id ga
    obtain ⟨hga, hta⟩ := h4 a (by omega)
    obtain ⟨⟨ca1, ca2, ca3, ca8⟩, Gra, ca4, ca5⟩ := id hga
    obtain ⟨rb, lob, hib, gb⟩ := hsh (a + 1 + d) (by omega)
    obtain ⟨kb, ob, ⟨rb0, kb1, nb1, ob1⟩, -, rb8⟩ := id gb
    obtain ⟨hgb, htb⟩ := h4 (a + 1 + d) (by omega)
    obtain ⟨⟨cb1, cb2, cb3, cb8⟩, Grb, cb4, cb5⟩ := id hgb
    refine v_aload_n hz dX7_mixPairs_29 rfl ?_
    refine v_getR hz fX7_37 (by assumption) (by assumption) dX7_mixPairs_30 ?_
    refine v_aload_n hz dX7_mixPairs_33 rfl ?_
    refine v_getR hz fX7_18 (by assumption) (by assumption) dX7_mixPairs_34 ?_
    refine v_iload hz dX7_mixPairs_37 rfl ?_
    refine v_aaldN hz (by omega) (by assumption) (by omega) (by decide) ra dX7_mixPairs_39 ?_
    refine v_aload_n hz dX7_mixPairs_40 rfl ?_
    refine v_getR hz fX7_18 (by assumption) (by assumption) dX7_mixPairs_41 ?_
    refine v_iload hz dX7_mixPairs_44 rfl ?_
    refine v_aaldN hz (by omega) (by assumption) (by omega) (by decide) rb dX7_mixPairs_46 ?_
    refine v_aload_n hz dX7_mixPairs_47 rfl ?_
    refine v_getI hz fX7_55 (by assumption) dX7_mixPairs_48 ?_
    refine v_top h8 ?_
    refine v_aload_n hz dX7_mixPairs_51 rfl ?_
    refine v_getR hz fX7_44 (by assumption) (by assumption) dX7_mixPairs_52 ?_
    refine v_callVv hz lX7_151 (cX0_compare_ok _ _ _ _ _ _ A ha w (sb a) (sb (a + 1 + d)) 60 (ks a) (ks (a + 1 + d)) ga gb hc loa lob (by decide) hga hgb (hv a hak).1.1 ⟨h8a, h8b⟩) (by assumption) rfl rfl (Nat.le_of_ble_eq_true rfl) (by decide) ⟨Nat.zero_le _, Nat.zero_le _⟩ dX7_mixPairs_55 (fun I2 q55 => ?_)
    obtain ⟨e1, e2, -⟩ := q55
    have hF2 := e1.ft ha hc
    have hFc2 : Ft κ cT I I2 := hF2.wid (fun t ht => Or.inl (by rcases ht with (h | h | h) | h <;> omega))
    have hs2 := CS.ft hn (hF2.wid (fun t ht => ht.elim Or.inl (fun h => Or.inr (Or.inl ⟨by omega, by omega⟩)))) hs
    refine v_ic (v := nI 0) hz dX7_mixPairs_58 (by decide) ?_
    refine v_istore hz dX7_mixPairs_59 (by decide) rfl ?_
    refine v_sub (lp_pr3 hn hz (a := a) (b := a + 1 + d) e2 ?_ 6 0 (by omega) (by omega)) ⟨rfl, rfl, rfl, rfl, rfl, trivial⟩
    first | refine v_iincN hz 1 dX7_mixPairs_87 (by decide) rfl (by decide) rfl ?_ | refine v_iinc hz dX7_mixPairs_87 rfl (by decide) rfl ?_
    refine v_goto hz 20 dX7_mixPairs_90 (by decide) ?_
    exact v_sub (ih (d + 1) I2 (by omega) (by omega) (hF.tr hFc2) hs2) ⟨rfl, rfl, rfl, rfl, trivial⟩
set_option maxHeartbeats 4000000 in
set_option maxRecDepth 100000 in
theorem lp_pr1 {z : Zz} {κ : Kz} {I0 : Iz} {R : Rz} {J : Jz} {A sb : Nat → Nat} (hn : LNg κ R A sb) (hz : Am z cX7_mixPairs RX7 8 5) {pg : Nat → Nat} {n kn : Nat} {ks : Nat → Sg} {tm : Nat → Int32} {T : Sg} {qa w bd : Nat} {te td : Int32} (hv : ∀ i, i < kn → okQ (ks i)) {h : Int64} (hr : Rt z yX7_mixPairs (some .long) 0 0 (Sl κ R J (fun r I1 => r = dgP ks w kn h kn ∧ Ft κ cT I0 I1 ∧ CS I1 A sb pg n kn ks tm T qa w bd te td))) :
    ∀ (m a : Nat) (I : Iz), a ≤ kn → kn + 1 ≤ a + m → Ft κ cT I0 I → CS I A sb pg n kn ks tm T qa w bd te td → V z 8 0 0 5 [(0, .ref (A 9)), (3, .long (dgP ks w kn h a)), (5, .int (nI a))] [] κ I R J := by
  obtain ⟨k9, o9, ⟨r0, r1, r2, r3, r4, r5, r6⟩, ⟨k10, n10, o10⟩, hsh, hgap, hp, hx, ha, hc, hf, hq⟩ := id hn
  have kp := hp.1
  have op := hp.2.2.2.2.1
  have op2 := hp.2.2.2.2.2
  have kx := hx.1
  have ka := ha.1
  have kc := hc.1
  have kf := hf.1
  have kq := hq.1
  intro m
  induction m with
  | zero => intro a I hv9 hm9; exact absurd hm9 (by omega)
  | succ m ih =>
  intro a I hv9 hm9 hF hs
  obtain ⟨h0, ⟨h2, h3, h4⟩, ⟨h5, h6⟩, ⟨h8, h8a, h8b, h9, h10⟩, ⟨h11, h12⟩, h13, ⟨h14, h15⟩⟩ := id hs
  refine v_iload hz dX7_mixPairs_5 rfl ?_
  refine v_aload_n hz dX7_mixPairs_7 rfl ?_
  refine v_getI hz fX7_87 (by assumption) dX7_mixPairs_8 ?_
  refine v_top h3 ?_
  with_reducible refine v_icmp_geN hz 99 (by omega) (by omega) dX7_mixPairs_11 (by decide) (fun c11 => ?_) (fun c11 => ?_)
  · refine v_lload_n hz dX7_mixPairs_99 rfl ?_
    exact v_lret hz hr dX7_mixPairs_100 ⟨by rw [show kn = a by omega], hF, hs⟩
  · refine v_iload hz dX7_mixPairs_14 rfl ?_
    refine v_ic (v := nI 1) hz dX7_mixPairs_16 (by decide) ?_
    first | with_reducible refine v_iaddN hz dX7_mixPairs_17 ?_ | refine v_iadd hz dX7_mixPairs_17 ?_
    refine v_istore hz dX7_mixPairs_18 (by decide) rfl ?_
    refine v_sub (lp_pr2 hn hz hv (show a < kn by omega) (fun I2 hF2 hs2 => ?_) (kn + 1) 0 I (by omega) (by omega) Ft.rf hs) ⟨rfl, rfl, rfl, rfl, trivial⟩
    first | refine v_iincN hz 1 dX7_mixPairs_93 (by decide) rfl (by decide) rfl ?_ | refine v_iinc hz dX7_mixPairs_93 rfl (by decide) rfl ?_
    refine v_goto hz 5 dX7_mixPairs_96 (by decide) ?_
    exact v_sub (ih (a + 1) I2 (by omega) (by omega) (hF.tr hF2) hs2) ⟨rfl, rfl, rfl, trivial⟩
set_option maxHeartbeats 4000000 in
set_option maxRecDepth 100000 in
theorem cX7_mixPairs_ok (l : Launch) (g : Gz) (κ : Kz) (I : Iz) (R : Rz) (J : Jz) (A sb : Nat → Nat) (hn : LNg κ R A sb) (pg : Nat → Nat) (n kn : Nat) (ks : Nat → Sg) (tm : Nat → Int32) (T : Sg) (qa w bd : Nat) (te td : Int32) (hs : CS I A sb pg n kn ks tm T qa w bd te td) (hv : ∀ i, i < kn → okQ (ks i)) (h : Int64) : Ct l mX7_mixPairs 0 0 g [.ref (A 9), .long h] κ I R J (Sl κ R J (fun r I1 => r = dgP ks w kn h kn ∧ Ft κ cT I I1 ∧ CS I1 A sb pg n kn ks tm T qa w bd te td)) := by
  refine ct_of (by decide) (Nat.le_of_ble_eq_true rfl) ?_
  intro z hz hr hrc hrs
  have hz : Am z cX7_mixPairs RX7 8 5 := hz
  have hr : Rt z yX7_mixPairs (some .long) 0 0 _ := hr
  show V z 8 0 0 0 [(0, .ref (A 9)), (1, .long h)] [] κ I R J
  obtain ⟨k9, o9, ⟨r0, r1, r2, r3, r4, r5, r6⟩, ⟨k10, n10, o10⟩, hsh, hgap, hp, hx, ha, hc, hf, hq⟩ := id hn
  have kp := hp.1
  have op := hp.2.2.2.2.1
  have op2 := hp.2.2.2.2.2
  have kx := hx.1
  have ka := ha.1
  have kc := hc.1
  have kf := hf.1
  have kq := hq.1
  obtain ⟨h0, ⟨h2, h3, h4⟩, ⟨h5, h6⟩, ⟨h8, h8a, h8b, h9, h10⟩, ⟨h11, h12⟩, h13, ⟨h14, h15⟩⟩ := id hs
  refine v_lload_n hz dX7_mixPairs_0 rfl ?_
  refine v_lstore_n hz dX7_mixPairs_1 (by decide) rfl ?_
  refine v_ic (v := nI 0) hz dX7_mixPairs_2 (by decide) ?_
  refine v_istore hz dX7_mixPairs_3 (by decide) rfl ?_
  exact v_sub (lp_pr1 hn hz hv hr (kn + 1) 0 I (by omega) (by omega) Ft.rf hs) ⟨rfl, rfl, rfl, trivial⟩
set_option maxHeartbeats 4000000 in
set_option maxRecDepth 100000 in
theorem lp_mf1 {z : Zz} {κ : Kz} {I : Iz} {R : Rz} {J : Jz} {A sb : Nat → Nat} (hn : LNg κ R A sb) (hz : Am z cX7_mixFindings RX7 7 4) {pg : Nat → Nat} {n kn : Nat} {ks : Nat → Sg} {tm : Nat → Int32} {T : Sg} {qa w bd : Nat} {te td : Int32} (hs : CS I A sb pg n kn ks tm T qa w bd te td) (hv : ∀ i, i < kn → okQ (ks i)) (hvT : 0 < qa → okQ T) (hqa : 0 < qa) (hfd : FD I A kn ks T w bd) {h : Int64} (K : V z 7 0 0 29 [(0, .ref (A 9)), (3, .long (mxs h (fun v => quT w bd ks T kn v) 10))] [] κ I R J) :
    ∀ (m v : Nat), v ≤ 10 → 11 ≤ v + m → V z 7 0 0 5 [(0, .ref (A 9)), (3, .long (mxs h (fun v => quT w bd ks T kn v) v)), (5, .int (nI v))] [] κ I R J := by
  obtain ⟨k9, o9, ⟨r0, r1, r2, r3, r4, r5, r6⟩, ⟨k10, n10, o10⟩, hsh, hgap, hp, hx, ha, hc, hf, hq⟩ := id hn
  have kp := hp.1
  have op := hp.2.2.2.2.1
  have op2 := hp.2.2.2.2.2
  have kx := hx.1
  have ka := ha.1
  have kc := hc.1
  have kf := hf.1
  have kq := hq.1
  intro m
  induction m with
  | zero => intro v hv9 hm9; exact absurd hm9 (by omega)
  | succ m ih =>
  intro v hv9 hm9
  refine v_iload hz dX7_mixFindings_5 rfl ?_
  refine v_bi (v := nI 10) hz dX7_mixFindings_7 (by decide) ?_
  with_reducible refine v_icmp_geN hz 29 (by omega) (by omega) dX7_mixFindings_9 (by decide) (fun c9 => ?_) (fun c9 => ?_)
  · have e : v = 10 := by omega
    subst e
    exact v_sub K ⟨rfl, rfl, trivial⟩
  · refine v_lload_n hz dX7_mixFindings_12 rfl ?_
    refine v_aload_n hz dX7_mixFindings_13 rfl ?_
    refine v_iload hz dX7_mixFindings_14 rfl ?_
    refine v_callVi hz lX7_191 (cX7_tellQuestion_ok _ _ _ _ _ _ A sb hn pg n kn ks tm T qa w bd te td hs hv hvT hqa hfd v (by omega)) (by assumption) rfl rfl (Nat.le_of_ble_eq_true rfl) (by decide) ⟨Nat.zero_le _, Nat.zero_le _⟩ dX7_mixFindings_16 (fun r I3 q16 => ?_)
    obtain ⟨rfl, eIq16⟩ := q16
    rw [eIq16]
    refine v_callSl hz lX7_216 (cX7_mix_ok _ _ _ _ _ _ _ _) rfl rfl (Nat.le_of_ble_eq_true rfl) (by decide) ⟨Nat.zero_le _, Nat.zero_le _⟩ dX7_mixFindings_19 (fun r I9 qm => ?_)
    obtain ⟨rfl, eIqm⟩ := qm
    rw [eIqm]
    refine v_lstore_n hz dX7_mixFindings_22 (by decide) rfl ?_
    first | refine v_iincN hz 1 dX7_mixFindings_23 (by decide) rfl (by decide) rfl ?_ | refine v_iinc hz dX7_mixFindings_23 rfl (by decide) rfl ?_
    refine v_goto hz 5 dX7_mixFindings_26 (by decide) ?_
    exact v_sub (ih (v + 1) (by omega) (by omega)) ⟨rfl, rfl, rfl, trivial⟩
set_option maxHeartbeats 4000000 in
set_option maxRecDepth 100000 in
theorem lp_mf3 {z : Zz} {κ : Kz} {I : Iz} {R : Rz} {J : Jz} {A sb : Nat → Nat} (hn : LNg κ R A sb) (hz : Am z cX7_mixFindings RX7 7 4) {kn w bd a : Nat} {ks : Nat → Sg} {T : Sg} (hkn : kn ≤ 12) (hfd : FD I A kn ks T w bd) {h : Int64} (hak : a < kn) (K : V z 7 0 0 77 [(0, .ref (A 9)), (3, .long (mxs h (fun v => nrT w bd (ks a) T v) 10)), (5, .int (nI a))] [] κ I R J) :
    ∀ (m v : Nat), v ≤ 10 → 11 ≤ v + m → V z 7 0 0 44 [(0, .ref (A 9)), (3, .long (mxs h (fun v => nrT w bd (ks a) T v) v)), (5, .int (nI a)), (6, .int (nI v))] [] κ I R J := by
  obtain ⟨k9, o9, ⟨r0, r1, r2, r3, r4, r5, r6⟩, ⟨k10, n10, o10⟩, hsh, hgap, hp, hx, ha, hc, hf, hq⟩ := id hn
  have kp := hp.1
  have op := hp.2.2.2.2.1
  have op2 := hp.2.2.2.2.2
  have kx := hx.1
  have ka := ha.1
  have kc := hc.1
  have kf := hf.1
  have kq := hq.1
  obtain ⟨_, of, ⟨rf0, kf0, nf0, hfr⟩, ⟨rf1, kf1, nf1, of1⟩, ⟨rf2, kf2, nf2, of2⟩⟩ := id hf
  intro m
  induction m with
  | zero => intro v hv9 hm9; exact absurd hm9 (by omega)
  | succ m ih =>
  intro v hv9 hm9
  refine v_iload hz dX7_mixFindings_44 rfl ?_
  refine v_bi (v := nI 10) hz dX7_mixFindings_46 (by decide) ?_
  with_reducible refine v_icmp_geN hz 77 (by omega) (by omega) dX7_mixFindings_48 (by decide) (fun c48 => ?_) (fun c48 => ?_)
  · have e : v = 10 := by omega
    subst e
    exact v_sub K ⟨rfl, rfl, rfl, trivial⟩
  · refine v_lload_n hz dX7_mixFindings_51 rfl ?_
    refine v_aload_n hz dX7_mixFindings_52 rfl ?_
    refine v_getR hz fX7_51 (by assumption) (by assumption) dX7_mixFindings_53 ?_
    refine v_getR hz fX7_174 (by assumption) (by assumption) dX7_mixFindings_56 ?_
    refine v_iload hz dX7_mixFindings_59 rfl ?_
    refine v_aaldN hz (by omega) (by assumption) (by omega) (by decide) (hfr a (by omega)).1 dX7_mixFindings_61 ?_
    refine v_iload hz dX7_mixFindings_62 rfl ?_
    refine v_callVi hz lX7_155 (cX1_tell_ok _ _ _ _ _ _ A (65 + 5 * a) (hfr a (by omega)).2 v (by omega) (by rw [(hfd.1 a hak).2.2.1]; exact bz_01) (by rw [(hfd.1 a hak).2.2.2.1]; exact bz_01) (by rw [(hfd.1 a hak).2.2.2.2]; exact bz_01)) (hfr a (by omega)).2.1 rfl rfl (Nat.le_of_ble_eq_true rfl) (by decide) ⟨Nat.zero_le _, Nat.zero_le _⟩ dX7_mixFindings_64 (fun r I3 qt => ?_)
    obtain ⟨rfl, eIqt⟩ := qt
    rw [eIqt]
    refine v_top (nr_tell (hfd.1 a hak) (by omega)) ?_
    refine v_callSl hz lX7_216 (cX7_mix_ok _ _ _ _ _ _ _ _) rfl rfl (Nat.le_of_ble_eq_true rfl) (by decide) ⟨Nat.zero_le _, Nat.zero_le _⟩ dX7_mixFindings_67 (fun r I9 qm => ?_)
    obtain ⟨rfl, eIqm⟩ := qm
    rw [eIqm]
    refine v_lstore_n hz dX7_mixFindings_70 (by decide) rfl ?_
    first | refine v_iincN hz 1 dX7_mixFindings_71 (by decide) rfl (by decide) rfl ?_ | refine v_iinc hz dX7_mixFindings_71 rfl (by decide) rfl ?_
    refine v_goto hz 44 dX7_mixFindings_74 (by decide) ?_
    exact v_sub (ih (v + 1) (by omega) (by omega)) ⟨rfl, rfl, rfl, rfl, trivial⟩
set_option maxHeartbeats 4000000 in
set_option maxRecDepth 100000 in
theorem lp_mf2 {z : Zz} {κ : Kz} {I : Iz} {R : Rz} {J : Jz} {A sb : Nat → Nat} (hn : LNg κ R A sb) (hz : Am z cX7_mixFindings RX7 7 4) {pg : Nat → Nat} {n kn : Nat} {ks : Nat → Sg} {tm : Nat → Int32} {T : Sg} {qa w bd : Nat} {te td : Int32} (hs : CS I A sb pg n kn ks tm T qa w bd te td) (hv : ∀ i, i < kn → okQ (ks i)) (hvT : 0 < qa → okQ T) (hqa : 0 < qa) (hfd : FD I A kn ks T w bd) {h : Int64} (K : V z 7 0 0 83 [(0, .ref (A 9)), (3, .long (dgN ks T w bd h kn))] [] κ I R J) :
    ∀ (m a : Nat), a ≤ kn → kn + 1 ≤ a + m → V z 7 0 0 32 [(0, .ref (A 9)), (3, .long (dgN ks T w bd h a)), (5, .int (nI a))] [] κ I R J := by
  obtain ⟨k9, o9, ⟨r0, r1, r2, r3, r4, r5, r6⟩, ⟨k10, n10, o10⟩, hsh, hgap, hp, hx, ha, hc, hf, hq⟩ := id hn
  have kp := hp.1
  have op := hp.2.2.2.2.1
  have op2 := hp.2.2.2.2.2
  have kx := hx.1
  have ka := ha.1
  have kc := hc.1
  have kf := hf.1
  have kq := hq.1
  obtain ⟨h0, ⟨h2, h3, h4⟩, ⟨h5, h6⟩, ⟨h8, h8a, h8b, h9, h10⟩, ⟨h11, h12⟩, h13, ⟨h14, h15⟩⟩ := id hs
  intro m
  induction m with
  | zero => intro a hv9 hm9; exact absurd hm9 (by omega)
  | succ m ih =>
  intro a hv9 hm9
  refine v_iload hz dX7_mixFindings_32 rfl ?_
  refine v_aload_n hz dX7_mixFindings_34 rfl ?_
  refine v_getI hz fX7_87 (by assumption) dX7_mixFindings_35 ?_
  refine v_top h3 ?_
  with_reducible refine v_icmp_geN hz 83 (by omega) (by omega) dX7_mixFindings_38 (by decide) (fun c38 => ?_) (fun c38 => ?_)
  · have e : a = kn := by omega
    rw [e]
    exact v_sub K ⟨rfl, rfl, trivial⟩
  · refine v_ic (v := nI 0) hz dX7_mixFindings_41 (by decide) ?_
    refine v_istore hz dX7_mixFindings_42 (by decide) rfl ?_
    refine v_sub (lp_mf3 hn hz h2 hfd (show a < kn by omega) ?_ 11 0 (by omega) (by omega)) ⟨rfl, rfl, rfl, rfl, trivial⟩
    first | refine v_iincN hz 1 dX7_mixFindings_77 (by decide) rfl (by decide) rfl ?_ | refine v_iinc hz dX7_mixFindings_77 rfl (by decide) rfl ?_
    refine v_goto hz 32 dX7_mixFindings_80 (by decide) ?_
    exact v_sub (ih (a + 1) (by omega) (by omega)) ⟨rfl, rfl, rfl, trivial⟩
set_option maxHeartbeats 4000000 in
set_option maxRecDepth 100000 in
theorem lp_mf4 {z : Zz} {κ : Kz} {I : Iz} {R : Rz} {J : Jz} {A sb : Nat → Nat} (hn : LNg κ R A sb) (hz : Am z cX7_mixFindings RX7 7 4) {kn w bd : Nat} {ks : Nat → Sg} {T : Sg} (hkn : kn ≤ 12) (hfd : FD I A kn ks T w bd) {h : Int64} {p : Int64 → Iz → Prop} (hr : Rt z yX7_mixFindings (some .long) 0 0 (Sl κ R J p)) (hp9 : p (mxs h (fun k => nI ((rkF w bd ks T kn).2 k)) (rkF w bd ks T kn).1) I) :
    ∀ (m v : Nat), v ≤ (rkF w bd ks T kn).1 → (rkF w bd ks T kn).1 + 1 ≤ v + m → V z 7 0 0 86 [(0, .ref (A 9)), (3, .long (mxs h (fun k => nI ((rkF w bd ks T kn).2 k)) v)), (5, .int (nI v))] [] κ I R J := by
  obtain ⟨k9, o9, ⟨r0, r1, r2, r3, r4, r5, r6⟩, ⟨k10, n10, o10⟩, hsh, hgap, hp, hx, ha, hc, hf, hq⟩ := id hn
  have kp := hp.1
  have op := hp.2.2.2.2.1
  have op2 := hp.2.2.2.2.2
  have kx := hx.1
  have ka := ha.1
  have kc := hc.1
  have kf := hf.1
  have kq := hq.1
  obtain ⟨_, of, ⟨rf0, kf0, nf0, hfr⟩, ⟨rf1, kf1, nf1, of1⟩, ⟨rf2, kf2, nf2, of2⟩⟩ := id hf
  have hle : (rkF w bd ks T kn).1 ≤ kn := rkk_le _ _ _ _
  intro m
  induction m with
  | zero => intro v hv9 hm9; exact absurd hm9 (by omega)
  | succ m ih =>
  intro v hv9 hm9
  refine v_iload hz dX7_mixFindings_86 rfl ?_
  refine v_aload_n hz dX7_mixFindings_88 rfl ?_
  refine v_getR hz fX7_51 (by assumption) (by assumption) dX7_mixFindings_89 ?_
  refine v_getI hz fX7_184 (by assumption) dX7_mixFindings_92 ?_
  refine v_top hfd.2.1 ?_
  with_reducible refine v_icmp_geN hz 119 (by omega) (by omega) dX7_mixFindings_95 (by decide) (fun c95 => ?_) (fun c95 => ?_)
  · refine v_lload_n hz dX7_mixFindings_119 rfl ?_
    exact v_lret hz hr dX7_mixFindings_120 (by
          have e : v = (rkF w bd ks T kn).1 := by omega
          rw [e]; exact hp9)
  · refine v_lload_n hz dX7_mixFindings_98 rfl ?_
    refine v_aload_n hz dX7_mixFindings_99 rfl ?_
    refine v_getR hz fX7_51 (by assumption) (by assumption) dX7_mixFindings_100 ?_
    refine v_getR hz fX7_187 (by assumption) (by assumption) dX7_mixFindings_103 ?_
    refine v_iload hz dX7_mixFindings_106 rfl ?_
    refine v_ialdN hz (by assumption) (by assumption) (by omega) (by decide) dX7_mixFindings_108 ?_
    refine v_top (hfd.2.2.2.2.2.1 v (by omega)) ?_
    refine v_callSl hz lX7_216 (cX7_mix_ok _ _ _ _ _ _ _ _) rfl rfl (Nat.le_of_ble_eq_true rfl) (by decide) ⟨Nat.zero_le _, Nat.zero_le _⟩ dX7_mixFindings_109 (fun r I9 qm => ?_)
    obtain ⟨rfl, eIqm⟩ := qm
    rw [eIqm]
    refine v_lstore_n hz dX7_mixFindings_112 (by decide) rfl ?_
    first | refine v_iincN hz 1 dX7_mixFindings_113 (by decide) rfl (by decide) rfl ?_ | refine v_iinc hz dX7_mixFindings_113 rfl (by decide) rfl ?_
    refine v_goto hz 86 dX7_mixFindings_116 (by decide) ?_
    exact v_sub (ih (v + 1) (by omega) (by omega)) ⟨rfl, rfl, rfl, trivial⟩
set_option maxHeartbeats 4000000 in
set_option maxRecDepth 100000 in
theorem cX7_mixFindings_ok (l : Launch) (g : Gz) (κ : Kz) (I : Iz) (R : Rz) (J : Jz) (A sb : Nat → Nat) (hn : LNg κ R A sb) (pg : Nat → Nat) (n kn : Nat) (ks : Nat → Sg) (tm : Nat → Int32) (T : Sg) (qa w bd : Nat) (te td : Int32) (hs : CS I A sb pg n kn ks tm T qa w bd te td) (hv : ∀ i, i < kn → okQ (ks i)) (hvT : 0 < qa → okQ T) (hqa : 0 < qa) (hfd : FD I A kn ks T w bd) (h : Int64) : Ct l mX7_mixFindings 0 0 g [.ref (A 9), .long h] κ I R J (Sl κ R J (fun r I1 => r = dgQ kn ks T w bd h ∧ I1 = I)) := by
  refine ct_of (by decide) (Nat.le_of_ble_eq_true rfl) ?_
  intro z hz hr hrc hrs
  have hz : Am z cX7_mixFindings RX7 7 4 := hz
  have hr : Rt z yX7_mixFindings (some .long) 0 0 _ := hr
  show V z 7 0 0 0 [(0, .ref (A 9)), (1, .long h)] [] κ I R J
  obtain ⟨k9, o9, ⟨r0, r1, r2, r3, r4, r5, r6⟩, ⟨k10, n10, o10⟩, hsh, hgap, hp, hx, ha, hc, hf, hq⟩ := id hn
  have kp := hp.1
  have op := hp.2.2.2.2.1
  have op2 := hp.2.2.2.2.2
  have kx := hx.1
  have ka := ha.1
  have kc := hc.1
  have kf := hf.1
  have kq := hq.1
  obtain ⟨h0, ⟨h2, h3, h4⟩, ⟨h5, h6⟩, ⟨h8, h8a, h8b, h9, h10⟩, ⟨h11, h12⟩, h13, ⟨h14, h15⟩⟩ := id hs
  refine v_lload_n hz dX7_mixFindings_0 rfl ?_
  refine v_lstore_n hz dX7_mixFindings_1 (by decide) rfl ?_
  refine v_ic (v := nI 0) hz dX7_mixFindings_2 (by decide) ?_
  refine v_istore hz dX7_mixFindings_3 (by decide) rfl ?_
  refine v_sub (lp_mf1 hn hz hs hv hvT hqa hfd (h := h) ?_ 11 0 (by omega) (by omega)) ⟨rfl, rfl, rfl, trivial⟩
  refine v_ic (v := nI 0) hz dX7_mixFindings_29 (by decide) ?_
  refine v_istore hz dX7_mixFindings_30 (by decide) rfl ?_
  refine v_sub (lp_mf2 hn hz hs hv hvT hqa hfd (h := (mxs h (fun v => quT w bd ks T kn v) 10)) ?_ (kn + 1) 0 (by omega) (by omega)) ⟨rfl, rfl, rfl, trivial⟩
  refine v_ic (v := nI 0) hz dX7_mixFindings_83 (by decide) ?_
  refine v_istore hz dX7_mixFindings_84 (by decide) rfl ?_
  exact v_sub (lp_mf4 hn hz h2 hfd (h := dgN ks T w bd (mxs h (fun v => quT w bd ks T kn v) 10) kn) hr ⟨rfl, rfl⟩ ((rkF w bd ks T kn).1 + 1) 0 (by omega) (by omega)) ⟨rfl, rfl, rfl, trivial⟩
set_option maxHeartbeats 4000000 in
set_option maxRecDepth 100000 in
theorem lp_nd2 {z : Zz} {κ : Kz} {I : Iz} {R : Rz} {J : Jz} {A sb : Nat → Nat} (hn : LNg κ R A sb) (hz : Am z cX7_digest RX7 4 6) {pg : Nat → Nat} {n kn : Nat} {ks : Nat → Sg} {tm : Nat → Int32} {T : Sg} {qa w bd : Nat} {te td : Int32} (hs : CS I A sb pg n kn ks tm T qa w bd te td) {h : Int64} {P : Int64 → Iz → Prop} (hr : Rt z yX7_digest (some .long) 0 0 (Sl κ R J P)) (hP : P (mxs h (fun v => cntR n kn ks qa w bd te td (nI v)) 8) I) :
    ∀ (m v : Nat), v ≤ 8 → 9 ≤ v + m → V z 4 0 0 68 [(0, .ref (A 9)), (1, .long (mxs h (fun v => cntR n kn ks qa w bd te td (nI v)) v)), (3, .int (nI v))] [] κ I R J := by
  obtain ⟨k9, o9, ⟨r0, r1, r2, r3, r4, r5, r6⟩, ⟨k10, n10, o10⟩, hsh, hgap, hp, hx, ha, hc, hf, hq⟩ := id hn
  have kp := hp.1
  have op := hp.2.2.2.2.1
  have op2 := hp.2.2.2.2.2
  have kx := hx.1
  have ka := ha.1
  have kc := hc.1
  have kf := hf.1
  have kq := hq.1
  intro m
  induction m with
  | zero => intro v hv9 hm9; exact absurd hm9 (by omega)
  | succ m ih =>
  intro v hv9 hm9
  refine v_iload_n hz dX7_digest_68 rfl ?_
  refine v_bi (v := nI 8) hz dX7_digest_69 (by decide) ?_
  with_reducible refine v_icmp_geN hz 90 (by omega) (by omega) dX7_digest_71 (by decide) (fun c71 => ?_) (fun c71 => ?_)
  · refine v_lload_n hz dX7_digest_90 rfl ?_
    exact v_lret hz hr dX7_digest_91 (by
          have e : v = 8 := by omega
          rw [e]; exact hP)
  · refine v_lload_n hz dX7_digest_74 rfl ?_
    refine v_aload_n hz dX7_digest_75 rfl ?_
    refine v_iload_n hz dX7_digest_76 rfl ?_
    refine v_callVi hz lX7_220 (cX7_count_ok _ _ _ _ _ _ A sb hn pg n kn ks tm T qa w bd te td hs (nI v)) (by assumption) rfl rfl (Nat.le_of_ble_eq_true rfl) (by decide) ⟨Nat.zero_le _, Nat.zero_le _⟩ dX7_digest_77 (fun r I3 q77 => ?_)
    obtain ⟨rfl, eIq77⟩ := q77
    rw [eIq77]
    refine v_callSl hz lX7_216 (cX7_mix_ok _ _ _ _ _ _ _ _) rfl rfl (Nat.le_of_ble_eq_true rfl) (by decide) ⟨Nat.zero_le _, Nat.zero_le _⟩ dX7_digest_80 (fun r I9 qm => ?_)
    obtain ⟨rfl, eIqm⟩ := qm
    rw [eIqm]
    refine v_lstore_n hz dX7_digest_83 (by decide) rfl ?_
    first | refine v_iincN hz 1 dX7_digest_84 (by decide) rfl (by decide) rfl ?_ | refine v_iinc hz dX7_digest_84 rfl (by decide) rfl ?_
    refine v_goto hz 68 dX7_digest_87 (by decide) ?_
    exact v_sub (ih (v + 1) (by omega) (by omega)) ⟨rfl, rfl, rfl, trivial⟩
set_option maxHeartbeats 4000000 in
set_option maxRecDepth 100000 in
theorem lp_nd1 {z : Zz} {κ : Kz} {I : Iz} {R : Rz} {J : Jz} {A sb : Nat → Nat} (hn : LNg κ R A sb) (hz : Am z cX7_digest RX7 4 6) {pg : Nat → Nat} {n kn : Nat} {ks : Nat → Sg} {tm : Nat → Int32} {T : Sg} {qa w bd : Nat} {te td : Int32} (hs : CS I A sb pg n kn ks tm T qa w bd te td) {h : Int64} {P : Int64 → Iz → Prop} (hr : Rt z yX7_digest (some .long) 0 0 (Sl κ R J P)) (hP : P (mxs (mxs h (fun k => nI (pg k)) n) (fun v => cntR n kn ks qa w bd te td (nI v)) 8) I) :
    ∀ (m v : Nat), v ≤ n → n + 1 ≤ v + m → V z 4 0 0 35 [(0, .ref (A 9)), (1, .long (mxs h (fun k => nI (pg k)) v)), (3, .int (nI v))] [] κ I R J := by
  obtain ⟨k9, o9, ⟨r0, r1, r2, r3, r4, r5, r6⟩, ⟨k10, n10, o10⟩, hsh, hgap, hp, hx, ha, hc, hf, hq⟩ := id hn
  have kp := hp.1
  have op := hp.2.2.2.2.1
  have op2 := hp.2.2.2.2.2
  have kx := hx.1
  have ka := ha.1
  have kc := hc.1
  have kf := hf.1
  have kq := hq.1
  obtain ⟨h0, ⟨h2, h3, h4⟩, ⟨h5, h6⟩, ⟨h8, h8a, h8b, h9, h10⟩, ⟨h11, h12⟩, h13, ⟨h14, h15⟩⟩ := id hs
  have hn48 := h0.1
  have rp := hp.2.1
  have kp2 := hp.2.2.1
  have np2 := hp.2.2.2.1
  intro m
  induction m with
  | zero => intro v hv9 hm9; exact absurd hm9 (by omega)
  | succ m ih =>
  intro v hv9 hm9
  refine v_iload_n hz dX7_digest_35 rfl ?_
  refine v_aload_n hz dX7_digest_36 rfl ?_
  refine v_getR hz fX7_12 (by assumption) (by assumption) dX7_digest_37 ?_
  refine v_getI hz fX7_74 (by assumption) dX7_digest_40 ?_
  refine v_top h0.2.1 ?_
  with_reducible refine v_icmp_geN hz 66 (by omega) (by omega) dX7_digest_43 (by decide) (fun c43 => ?_) (fun c43 => ?_)
  · refine v_ic (v := nI 0) hz dX7_digest_66 (by decide) ?_
    refine v_istore_n hz dX7_digest_67 (by decide) rfl ?_
    have e : v = n := by omega
    rw [e]
    exact v_sub (lp_nd2 hn hz hs hr hP 9 0 (by omega) (by omega)) ⟨rfl, rfl, rfl, trivial⟩
  · refine v_lload_n hz dX7_digest_46 rfl ?_
    refine v_aload_n hz dX7_digest_47 rfl ?_
    refine v_getR hz fX7_12 (by assumption) (by assumption) dX7_digest_48 ?_
    refine v_getR hz fX7_213 (by assumption) (by assumption) dX7_digest_51 ?_
    refine v_iload_n hz dX7_digest_54 rfl ?_
    refine v_ialdN hz (by assumption) (by assumption) (by omega) (by decide) dX7_digest_55 ?_
    refine v_top (h0.2.2 v (by omega)).1 ?_
    refine v_callSl hz lX7_216 (cX7_mix_ok _ _ _ _ _ _ _ _) rfl rfl (Nat.le_of_ble_eq_true rfl) (by decide) ⟨Nat.zero_le _, Nat.zero_le _⟩ dX7_digest_56 (fun r I9 qm => ?_)
    obtain ⟨rfl, eIqm⟩ := qm
    rw [eIqm]
    refine v_lstore_n hz dX7_digest_59 (by decide) rfl ?_
    first | refine v_iincN hz 1 dX7_digest_60 (by decide) rfl (by decide) rfl ?_ | refine v_iinc hz dX7_digest_60 rfl (by decide) rfl ?_
    refine v_goto hz 35 dX7_digest_63 (by decide) ?_
    exact v_sub (ih (v + 1) (by omega) (by omega)) ⟨rfl, rfl, rfl, trivial⟩
set_option maxHeartbeats 4000000 in
set_option maxRecDepth 100000 in
theorem cX7_digest_ok (l : Launch) (g : Gz) (κ : Kz) (I : Iz) (R : Rz) (J : Jz) (A sb : Nat → Nat) (hn : LNg κ R A sb) (pg : Nat → Nat) (n kn : Nat) (ks : Nat → Sg) (tm : Nat → Int32) (T : Sg) (qa w bd : Nat) (te td : Int32) (hs : CS I A sb pg n kn ks tm T qa w bd te td) (hv : ∀ i, i < kn → okQ (ks i)) (hvT : 0 < qa → okQ T) (hqb : qa < 2147483648) : Ct l mX7_digest 0 0 g [.ref (A 9)] κ I R J (Sl κ R J (fun r I1 => r = digF pg n kn ks tm T qa w bd te td ∧ Ft κ cT I I1 ∧ CS I1 A sb pg n kn ks tm T qa w bd te td)) := by
  refine ct_of (by decide) (Nat.le_of_ble_eq_true rfl) ?_
  intro z hz hr hrc hrs
  have hz : Am z cX7_digest RX7 4 6 := hz
  have hr : Rt z yX7_digest (some .long) 0 0 _ := hr
  show V z 4 0 0 0 [(0, .ref (A 9))] [] κ I R J
  obtain ⟨k9, o9, ⟨r0, r1, r2, r3, r4, r5, r6⟩, ⟨k10, n10, o10⟩, hsh, hgap, hp, hx, ha, hc, hf, hq⟩ := id hn
  have kp := hp.1
  have op := hp.2.2.2.2.1
  have op2 := hp.2.2.2.2.2
  have kx := hx.1
  have ka := ha.1
  have kc := hc.1
  have kf := hf.1
  have kq := hq.1
  obtain ⟨h0, ⟨h2, h3, h4⟩, ⟨h5, h6⟩, ⟨h8, h8a, h8b, h9, h10⟩, ⟨h11, h12⟩, h13, ⟨h14, h15⟩⟩ := id hs
  refine v_ldc2 (v := 1637) hz (tg_mem 672 (by decide +kernel) rfl) dX7_digest_0 ?_
  refine v_lstore_n hz dX7_digest_3 (by decide) rfl ?_
  refine v_aload_n hz dX7_digest_4 rfl ?_
  refine v_lload_n hz dX7_digest_5 rfl ?_
  refine v_callVl hz lX7_203 (cX7_mixSegments_ok _ _ _ _ _ _ A sb hn pg n kn ks tm T qa w bd te td hs 1637) (by assumption) rfl rfl (Nat.le_of_ble_eq_true rfl) (by decide) ⟨Nat.zero_le _, Nat.zero_le _⟩ dX7_digest_6 (fun r I9 q6 => ?_)
  obtain ⟨rfl, eIq6⟩ := q6
  rw [eIq6]
  refine v_lstore_n hz dX7_digest_9 (by decide) rfl ?_
  refine v_aload_n hz dX7_digest_10 rfl ?_
  refine v_lload_n hz dX7_digest_11 rfl ?_
  refine v_callVl hz lX7_207 (cX7_mixPairs_ok _ _ _ _ _ _ A sb hn pg n kn ks tm T qa w bd te td hs hv (dgS ks tm w (6 * kn))) (by assumption) rfl rfl (Nat.le_of_ble_eq_true rfl) (by decide) ⟨Nat.zero_le _, Nat.zero_le _⟩ dX7_digest_12 (fun r I2 q12 => ?_)
  obtain ⟨rfl, hF2, hs2⟩ := q12
  obtain ⟨h0, ⟨h2, h3, h4⟩, ⟨h5, h6⟩, ⟨h8, h8a, h8b, h9, h10⟩, ⟨h11, h12⟩, h13, ⟨h14, h15⟩⟩ := id hs2
  refine v_lstore_n hz dX7_digest_15 (by decide) rfl ?_
  refine v_aload_n hz dX7_digest_16 rfl ?_
  refine v_callVi hz lX7_168 (cX7_hasQuestion_ok _ _ _ _ _ _ A sb hn qa hqb h5) (by assumption) rfl rfl (Nat.le_of_ble_eq_true rfl) (by decide) ⟨Nat.zero_le _, Nat.zero_le _⟩ dX7_digest_17 (fun r I9 qh => ?_)
  obtain ⟨rfl, eIqh⟩ := qh
  rw [eIqh]
  with_reducible refine v_if_eqB hz 33 dX7_digest_20 (by decide) (fun c20 => ?_) (fun c20 => ?_)
  · refine v_ic (v := nI 0) hz dX7_digest_33 (by decide) ?_
    refine v_istore_n hz dX7_digest_34 (by decide) rfl ?_
    exact v_sub (lp_nd1 hn hz hs2 (h := (dgP ks w kn (dgS ks tm w (6 * kn)) kn)) hr ⟨by unfold digF; rw [if_neg c20], hF2, hs2⟩ (n + 1) 0 (by omega) (by omega)) ⟨rfl, rfl, rfl, trivial⟩
  · refine v_aload_n hz dX7_digest_23 rfl ?_
    refine v_callVv hz lX7_171 (cX7_refreshFindings_ok _ _ _ _ _ _ A sb hn pg n kn ks tm T qa w bd te td hs2 hv hvT c20) (by assumption) rfl rfl (Nat.le_of_ble_eq_true rfl) (by decide) ⟨Nat.zero_le _, Nat.zero_le _⟩ dX7_digest_24 (fun I3 q24 => ?_)
    obtain ⟨hF3, hs3, hfd⟩ := q24
    refine v_aload_n hz dX7_digest_27 rfl ?_
    refine v_lload_n hz dX7_digest_28 rfl ?_
    refine v_callVl hz lX7_210 (cX7_mixFindings_ok _ _ _ _ _ _ A sb hn pg n kn ks tm T qa w bd te td hs3 hv hvT c20 hfd (dgP ks w kn (dgS ks tm w (6 * kn)) kn)) (by assumption) rfl rfl (Nat.le_of_ble_eq_true rfl) (by decide) ⟨Nat.zero_le _, Nat.zero_le _⟩ dX7_digest_29 (fun r I9 q29 => ?_)
    obtain ⟨rfl, eIq29⟩ := q29
    rw [eIq29]
    refine v_lstore_n hz dX7_digest_32 (by decide) rfl ?_
    refine v_ic (v := nI 0) hz dX7_digest_33 (by decide) ?_
    refine v_istore_n hz dX7_digest_34 (by decide) rfl ?_
    exact v_sub (lp_nd1 hn hz hs3 (h := dgQ kn ks T w bd (dgP ks w kn (dgS ks tm w (6 * kn)) kn)) hr ⟨by unfold digF; rw [if_pos c20], hF2.tr hF3, hs3⟩ (n + 1) 0 (by omega) (by omega)) ⟨rfl, rfl, rfl, trivial⟩
