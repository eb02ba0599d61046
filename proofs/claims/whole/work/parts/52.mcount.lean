/-! ===== the reference: the question, grams, counts ===== -/
theorem bz_ite (b : Bool) : bz (b = true) = nI (if b then 1 else 0) := by cases b <;> rfl
theorem cm_b {p1 p2 L G : Bool} {PL PG : Prop} (hl : L = true ↔ PL) (hg : G = true ↔ PG) : ((((!p1) || L) && ((!p2) || G)) = true) ↔ ((p1 = true → PL) ∧ (p2 = true → PG)) := by
  rw [← hl, ← hg]
  cases p1 <;> cases p2 <;> cases L <;> cases G <;> simp
theorem cvs_out {w : Nat} {S T : Sg} {cv : Nat → Bool} {x : Nat} (hx : T.1 ≤ x) (h : cv x = false) : ∀ k, cvs w S T cv k x = false
  | 0 => h
  | k + 1 => by
    rw [cvs_s, cvs_out hx h k]
    simp
    intro a _ e
    have := knd_0 a
    omega
theorem cvk_out {w : Nat} {S : Nat → Sg} {T : Sg} {ns : Nat → Nat} {M : Nat → Bool} {x : Nat} (hx : T.1 ≤ x) : ∀ i, cvk w S T ns M i x = false
  | 0 => rfl
  | i + 1 => by
    have e : cvk w S T ns M (i + 1) = if M i then cvs w (S i) T (cvk w S T ns M i) (ns i) else cvk w S T ns M i := rfl
    rw [e]
    by_cases q : M i
    · rw [if_pos q]; exact cvs_out hx (cvk_out hx i) _
    · rw [if_neg q]; exact cvk_out hx i
theorem sm_cut {f : Nat → Nat} {n : Nat} (h : ∀ i, n ≤ i → f i = 0) : ∀ d, sm f (n + d) = sm f n
  | 0 => rfl
  | d + 1 => by
    show sm f (n + d) + f (n + d) = sm f n
    rw [sm_cut h d, h _ (by omega)]
    rfl
set_option maxHeartbeats 4000000 in
set_option maxRecDepth 100000 in
theorem lp_canMany {z : Zz} {κ : Kz} {I0 : Iz} {R : Rz} {J : Jz} {A : Nat → Nat} (hm : LM κ R A) (hz : Am z cX8_canMany RX8 5 6) {pg : Nat → Nat} {n kn : Nat} {ks : Nat → Sg} {tm : Nat → Int32} {T : Sg} {qa w bd : Nat} {te td : Int32} (hs : MS I0 A pg n kn ks tm T qa w bd te td) (hv : ∀ i, i < kn → okQ (ks i)) (hvT : 0 < qa → okQ T) (hqa : 0 < qa) {p1 p2 : Bool} (hr : Rt z yX8_canMany (some .int) 0 0 (Si κ R J (fun r I1 => r = nI (sm (fun i => if (((!p1) || lnB w bd ks T i) && ((!p2) || gmB w bd ks T i)) then 1 else 0) kn) ∧ QF A I0 I1))) :
    ∀ (m a : Nat) (I : Iz), a ≤ kn → kn + 1 ≤ a + m → QF A I0 I → V z 5 0 0 5 [(0, .ref (A 130)), (1, .int (bz (p1 = true))), (2, .int (bz (p2 = true))), (3, .int (nI (sm (fun i => if (((!p1) || lnB w bd ks T i) && ((!p2) || gmB w bd ks T i)) then 1 else 0) a))), (4, .int (nI a))] [] κ I R J := by
  have hk := hm.k
  have ho := hm.o
  intro m
  induction m with
  | zero => intro a I ha hm9; exact absurd hm9 (by omega)
  | succ m ih =>
  intro a I ha hm9 hQ
  have hsI := hQ.ms hm hs
  obtain ⟨⟨h0, h0a, h0b⟩, ⟨h2, h3, h4⟩, ⟨h5, h6, h7⟩, ⟨⟨h8, h8a⟩, h9, h10⟩, h11, h12⟩ := id hsI
  refine v_iload hz dX8_canMany_5 rfl ?_
  refine v_aload_n hz dX8_canMany_7 rfl ?_
  refine v_getI hz fX8_107 (by assumption) dX8_canMany_8 ?_
  refine v_top h3 ?_
  first | with_reducible refine v_icmp_geN hz 57 (by omega) (by omega) dX8_canMany_11 (by decide) (fun c11 => ?_) (fun c11 => ?_) | refine v_icmp_ge hz 57 dX8_canMany_11 (by decide) (fun c11 => ?_) (fun c11 => ?_)
  · exact v_iload_n hz dX8_canMany_57 rfl (v_iret hz hr dX8_canMany_58 ⟨by rw [show kn = a by omega], hQ⟩)
  · refine v_iload_n hz dX8_canMany_14 rfl ?_
    refine v_iload_n hz dX8_canMany_15 rfl ?_
    first | with_reducible refine v_if_eqB hz 28 dX8_canMany_16 (by decide) (fun c16 => ?_) (fun c16 => ?_) | with_reducible refine v_if_eqN hz 28 (by omega) dX8_canMany_16 (by decide) (fun c16 => ?_) (fun c16 => ?_) | refine v_if_eq hz 28 dX8_canMany_16 (by decide) (fun c16 => ?_) (fun c16 => ?_)
    · refine v_iload_n hz dX8_canMany_28 rfl ?_
      first | with_reducible refine v_if_eqB hz 41 dX8_canMany_29 (by decide) (fun c29 => ?_) (fun c29 => ?_) | with_reducible refine v_if_eqN hz 41 (by omega) dX8_canMany_29 (by decide) (fun c29 => ?_) (fun c29 => ?_) | refine v_if_eq hz 41 dX8_canMany_29 (by decide) (fun c29 => ?_) (fun c29 => ?_)
      · refine v_ic (v := nI 1) hz dX8_canMany_41 (by decide) ?_
        refine v_goto hz 46 dX8_canMany_42 (by decide) ?_
        refine v_top (y := bz ((((!p1) || lnB w bd ks T a) && ((!p2) || gmB w bd ks T a)) = true)) (by first | exact (bz_t ((cm_b decide_eq_true_iff decide_eq_true_iff).mpr ⟨fun h => by first | assumption | exact absurd h c16, fun h => by first | assumption | exact absurd h c29⟩)).symm | exact (bz_f (fun q => c25 (((cm_b decide_eq_true_iff decide_eq_true_iff).mp q).1 c16))).symm | exact (bz_f (fun q => c38 (((cm_b decide_eq_true_iff decide_eq_true_iff).mp q).2 c29))).symm) ?_
        refine v_callSi hz lX8_229 (cX8_bit_ok _ _ _ _ _ _ _) rfl rfl (Nat.le_of_ble_eq_true rfl) (by decide) ⟨Nat.zero_le _, Nat.zero_le _⟩ dX8_canMany_46 (fun r I3 q46 => ?_)
        obtain ⟨rfl, eI⟩ := q46
        rw [eI]
        refine v_top (bz_ite _) ?_
        first | with_reducible refine v_iaddN hz dX8_canMany_49 ?_ | refine v_iadd hz dX8_canMany_49 ?_
        refine v_istore_n hz dX8_canMany_50 (by decide) rfl ?_
        first | refine v_iincN hz 1 dX8_canMany_51 (by decide) rfl (by decide) rfl ?_ | refine v_iinc hz dX8_canMany_51 rfl (by decide) rfl ?_
        refine v_goto hz 5 dX8_canMany_54 (by decide) ?_
        first
        | (exact v_sub (ih (a + 1) _ (by omega) (by omega) hQ) ⟨rfl, rfl, rfl, rfl, rfl, trivial⟩)
        | (exact v_sub (ih (a + 1) _ (by omega) (by omega) (hQ.tr hG)) ⟨rfl, rfl, rfl, rfl, rfl, trivial⟩)
      · refine v_aload_n hz dX8_canMany_32 rfl ?_
        refine v_iload hz dX8_canMany_33 rfl ?_
        refine v_callVi hz lX8_233 (cX8_canByGrams_ok _ _ _ _ _ _ A hm a w bd (ks a) T ⟨h8, h8a⟩ h9 h10 (h4 a (by omega)).1 (h7 hqa) (hv a (by omega)) (hvT hqa)) (by assumption) rfl rfl (Nat.le_of_ble_eq_true rfl) (by decide) ⟨Nat.zero_le _, Nat.zero_le _⟩ dX8_canMany_35 (fun r I3 q35 => ?_)
        obtain ⟨rfl, hG⟩ := q35
        unfold cbG
        first | with_reducible refine v_if_eqB hz 45 dX8_canMany_38 (by decide) (fun c38 => ?_) (fun c38 => ?_) | with_reducible refine v_if_eqN hz 45 (by omega) dX8_canMany_38 (by decide) (fun c38 => ?_) (fun c38 => ?_) | refine v_if_eq hz 45 dX8_canMany_38 (by decide) (fun c38 => ?_) (fun c38 => ?_)
        · refine v_ic (v := nI 0) hz dX8_canMany_45 (by decide) ?_
          refine v_top (y := bz ((((!p1) || lnB w bd ks T a) && ((!p2) || gmB w bd ks T a)) = true)) (by first | exact (bz_t ((cm_b decide_eq_true_iff decide_eq_true_iff).mpr ⟨fun h => by first | assumption | exact absurd h c16, fun h => by first | assumption | exact absurd h c29⟩)).symm | exact (bz_f (fun q => c25 (((cm_b decide_eq_true_iff decide_eq_true_iff).mp q).1 c16))).symm | exact (bz_f (fun q => c38 (((cm_b decide_eq_true_iff decide_eq_true_iff).mp q).2 c29))).symm) ?_
          refine v_callSi hz lX8_229 (cX8_bit_ok _ _ _ _ _ _ _) rfl rfl (Nat.le_of_ble_eq_true rfl) (by decide) ⟨Nat.zero_le _, Nat.zero_le _⟩ dX8_canMany_46 (fun r I3 q46 => ?_)
          obtain ⟨rfl, eI⟩ := q46
          rw [eI]
          refine v_top (bz_ite _) ?_
          first | with_reducible refine v_iaddN hz dX8_canMany_49 ?_ | refine v_iadd hz dX8_canMany_49 ?_
          refine v_istore_n hz dX8_canMany_50 (by decide) rfl ?_
          first | refine v_iincN hz 1 dX8_canMany_51 (by decide) rfl (by decide) rfl ?_ | refine v_iinc hz dX8_canMany_51 rfl (by decide) rfl ?_
          refine v_goto hz 5 dX8_canMany_54 (by decide) ?_
          first
          | (exact v_sub (ih (a + 1) _ (by omega) (by omega) hQ) ⟨rfl, rfl, rfl, rfl, rfl, trivial⟩)
          | (exact v_sub (ih (a + 1) _ (by omega) (by omega) (hQ.tr hG)) ⟨rfl, rfl, rfl, rfl, rfl, trivial⟩)
        · refine v_ic (v := nI 1) hz dX8_canMany_41 (by decide) ?_
          refine v_goto hz 46 dX8_canMany_42 (by decide) ?_
          refine v_top (y := bz ((((!p1) || lnB w bd ks T a) && ((!p2) || gmB w bd ks T a)) = true)) (by first | exact (bz_t ((cm_b decide_eq_true_iff decide_eq_true_iff).mpr ⟨fun h => by first | assumption | exact absurd h c16, fun h => by first | assumption | exact absurd h c29⟩)).symm | exact (bz_f (fun q => c25 (((cm_b decide_eq_true_iff decide_eq_true_iff).mp q).1 c16))).symm | exact (bz_f (fun q => c38 (((cm_b decide_eq_true_iff decide_eq_true_iff).mp q).2 c29))).symm) ?_
          refine v_callSi hz lX8_229 (cX8_bit_ok _ _ _ _ _ _ _) rfl rfl (Nat.le_of_ble_eq_true rfl) (by decide) ⟨Nat.zero_le _, Nat.zero_le _⟩ dX8_canMany_46 (fun r I3 q46 => ?_)
          obtain ⟨rfl, eI⟩ := q46
          rw [eI]
          refine v_top (bz_ite _) ?_
          first | with_reducible refine v_iaddN hz dX8_canMany_49 ?_ | refine v_iadd hz dX8_canMany_49 ?_
          refine v_istore_n hz dX8_canMany_50 (by decide) rfl ?_
          first | refine v_iincN hz 1 dX8_canMany_51 (by decide) rfl (by decide) rfl ?_ | refine v_iinc hz dX8_canMany_51 rfl (by decide) rfl ?_
          refine v_goto hz 5 dX8_canMany_54 (by decide) ?_
          first
          | (exact v_sub (ih (a + 1) _ (by omega) (by omega) hQ) ⟨rfl, rfl, rfl, rfl, rfl, trivial⟩)
          | (exact v_sub (ih (a + 1) _ (by omega) (by omega) (hQ.tr hG)) ⟨rfl, rfl, rfl, rfl, rfl, trivial⟩)
    · refine v_aload_n hz dX8_canMany_19 rfl ?_
      refine v_iload hz dX8_canMany_20 rfl ?_
      refine v_callVi hz lX8_226 (cX8_canByLengths_ok _ _ _ _ _ _ A hm a w bd (ks a) T ⟨h8, h8a⟩ h9 h10 (h4 a (by omega)).1 (h7 hqa) (hv a (by omega)) (hvT hqa)) (by assumption) rfl rfl (Nat.le_of_ble_eq_true rfl) (by decide) ⟨Nat.zero_le _, Nat.zero_le _⟩ dX8_canMany_22 (fun r I2 q22 => ?_)
      obtain ⟨rfl, eIq22⟩ := q22
      rw [eIq22]
      unfold cbL
      first | with_reducible refine v_if_eqB hz 45 dX8_canMany_25 (by decide) (fun c25 => ?_) (fun c25 => ?_) | with_reducible refine v_if_eqN hz 45 (by omega) dX8_canMany_25 (by decide) (fun c25 => ?_) (fun c25 => ?_) | refine v_if_eq hz 45 dX8_canMany_25 (by decide) (fun c25 => ?_) (fun c25 => ?_)
      · refine v_ic (v := nI 0) hz dX8_canMany_45 (by decide) ?_
        refine v_top (y := bz ((((!p1) || lnB w bd ks T a) && ((!p2) || gmB w bd ks T a)) = true)) (by first | exact (bz_t ((cm_b decide_eq_true_iff decide_eq_true_iff).mpr ⟨fun h => by first | assumption | exact absurd h c16, fun h => by first | assumption | exact absurd h c29⟩)).symm | exact (bz_f (fun q => c25 (((cm_b decide_eq_true_iff decide_eq_true_iff).mp q).1 c16))).symm | exact (bz_f (fun q => c38 (((cm_b decide_eq_true_iff decide_eq_true_iff).mp q).2 c29))).symm) ?_
        refine v_callSi hz lX8_229 (cX8_bit_ok _ _ _ _ _ _ _) rfl rfl (Nat.le_of_ble_eq_true rfl) (by decide) ⟨Nat.zero_le _, Nat.zero_le _⟩ dX8_canMany_46 (fun r I3 q46 => ?_)
        obtain ⟨rfl, eI⟩ := q46
        rw [eI]
        refine v_top (bz_ite _) ?_
        first | with_reducible refine v_iaddN hz dX8_canMany_49 ?_ | refine v_iadd hz dX8_canMany_49 ?_
        refine v_istore_n hz dX8_canMany_50 (by decide) rfl ?_
        first | refine v_iincN hz 1 dX8_canMany_51 (by decide) rfl (by decide) rfl ?_ | refine v_iinc hz dX8_canMany_51 rfl (by decide) rfl ?_
        refine v_goto hz 5 dX8_canMany_54 (by decide) ?_
        first
        | (exact v_sub (ih (a + 1) _ (by omega) (by omega) hQ) ⟨rfl, rfl, rfl, rfl, rfl, trivial⟩)
        | (exact v_sub (ih (a + 1) _ (by omega) (by omega) (hQ.tr hG)) ⟨rfl, rfl, rfl, rfl, rfl, trivial⟩)
      · refine v_iload_n hz dX8_canMany_28 rfl ?_
        first | with_reducible refine v_if_eqB hz 41 dX8_canMany_29 (by decide) (fun c29 => ?_) (fun c29 => ?_) | with_reducible refine v_if_eqN hz 41 (by omega) dX8_canMany_29 (by decide) (fun c29 => ?_) (fun c29 => ?_) | refine v_if_eq hz 41 dX8_canMany_29 (by decide) (fun c29 => ?_) (fun c29 => ?_)
        · refine v_ic (v := nI 1) hz dX8_canMany_41 (by decide) ?_
          refine v_goto hz 46 dX8_canMany_42 (by decide) ?_
          refine v_top (y := bz ((((!p1) || lnB w bd ks T a) && ((!p2) || gmB w bd ks T a)) = true)) (by first | exact (bz_t ((cm_b decide_eq_true_iff decide_eq_true_iff).mpr ⟨fun h => by first | assumption | exact absurd h c16, fun h => by first | assumption | exact absurd h c29⟩)).symm | exact (bz_f (fun q => c25 (((cm_b decide_eq_true_iff decide_eq_true_iff).mp q).1 c16))).symm | exact (bz_f (fun q => c38 (((cm_b decide_eq_true_iff decide_eq_true_iff).mp q).2 c29))).symm) ?_
          refine v_callSi hz lX8_229 (cX8_bit_ok _ _ _ _ _ _ _) rfl rfl (Nat.le_of_ble_eq_true rfl) (by decide) ⟨Nat.zero_le _, Nat.zero_le _⟩ dX8_canMany_46 (fun r I3 q46 => ?_)
          obtain ⟨rfl, eI⟩ := q46
          rw [eI]
          refine v_top (bz_ite _) ?_
          first | with_reducible refine v_iaddN hz dX8_canMany_49 ?_ | refine v_iadd hz dX8_canMany_49 ?_
          refine v_istore_n hz dX8_canMany_50 (by decide) rfl ?_
          first | refine v_iincN hz 1 dX8_canMany_51 (by decide) rfl (by decide) rfl ?_ | refine v_iinc hz dX8_canMany_51 rfl (by decide) rfl ?_
          refine v_goto hz 5 dX8_canMany_54 (by decide) ?_
          first
          | (exact v_sub (ih (a + 1) _ (by omega) (by omega) hQ) ⟨rfl, rfl, rfl, rfl, rfl, trivial⟩)
          | (exact v_sub (ih (a + 1) _ (by omega) (by omega) (hQ.tr hG)) ⟨rfl, rfl, rfl, rfl, rfl, trivial⟩)
        · refine v_aload_n hz dX8_canMany_32 rfl ?_
          refine v_iload hz dX8_canMany_33 rfl ?_
          refine v_callVi hz lX8_233 (cX8_canByGrams_ok _ _ _ _ _ _ A hm a w bd (ks a) T ⟨h8, h8a⟩ h9 h10 (h4 a (by omega)).1 (h7 hqa) (hv a (by omega)) (hvT hqa)) (by assumption) rfl rfl (Nat.le_of_ble_eq_true rfl) (by decide) ⟨Nat.zero_le _, Nat.zero_le _⟩ dX8_canMany_35 (fun r I3 q35 => ?_)
          obtain ⟨rfl, hG⟩ := q35
          unfold cbG
          first | with_reducible refine v_if_eqB hz 45 dX8_canMany_38 (by decide) (fun c38 => ?_) (fun c38 => ?_) | with_reducible refine v_if_eqN hz 45 (by omega) dX8_canMany_38 (by decide) (fun c38 => ?_) (fun c38 => ?_) | refine v_if_eq hz 45 dX8_canMany_38 (by decide) (fun c38 => ?_) (fun c38 => ?_)
          · refine v_ic (v := nI 0) hz dX8_canMany_45 (by decide) ?_
            refine v_top (y := bz ((((!p1) || lnB w bd ks T a) && ((!p2) || gmB w bd ks T a)) = true)) (by first | exact (bz_t ((cm_b decide_eq_true_iff decide_eq_true_iff).mpr ⟨fun h => by first | assumption | exact absurd h c16, fun h => by first | assumption | exact absurd h c29⟩)).symm | exact (bz_f (fun q => c25 (((cm_b decide_eq_true_iff decide_eq_true_iff).mp q).1 c16))).symm | exact (bz_f (fun q => c38 (((cm_b decide_eq_true_iff decide_eq_true_iff).mp q).2 c29))).symm) ?_
            refine v_callSi hz lX8_229 (cX8_bit_ok _ _ _ _ _ _ _) rfl rfl (Nat.le_of_ble_eq_true rfl) (by decide) ⟨Nat.zero_le _, Nat.zero_le _⟩ dX8_canMany_46 (fun r I3 q46 => ?_)
            obtain ⟨rfl, eI⟩ := q46
            rw [eI]
            refine v_top (bz_ite _) ?_
            first | with_reducible refine v_iaddN hz dX8_canMany_49 ?_ | refine v_iadd hz dX8_canMany_49 ?_
            refine v_istore_n hz dX8_canMany_50 (by decide) rfl ?_
            first | refine v_iincN hz 1 dX8_canMany_51 (by decide) rfl (by decide) rfl ?_ | refine v_iinc hz dX8_canMany_51 rfl (by decide) rfl ?_
            refine v_goto hz 5 dX8_canMany_54 (by decide) ?_
            first
            | (exact v_sub (ih (a + 1) _ (by omega) (by omega) hQ) ⟨rfl, rfl, rfl, rfl, rfl, trivial⟩)
            | (exact v_sub (ih (a + 1) _ (by omega) (by omega) (hQ.tr hG)) ⟨rfl, rfl, rfl, rfl, rfl, trivial⟩)
          · refine v_ic (v := nI 1) hz dX8_canMany_41 (by decide) ?_
            refine v_goto hz 46 dX8_canMany_42 (by decide) ?_
            refine v_top (y := bz ((((!p1) || lnB w bd ks T a) && ((!p2) || gmB w bd ks T a)) = true)) (by first | exact (bz_t ((cm_b decide_eq_true_iff decide_eq_true_iff).mpr ⟨fun h => by first | assumption | exact absurd h c16, fun h => by first | assumption | exact absurd h c29⟩)).symm | exact (bz_f (fun q => c25 (((cm_b decide_eq_true_iff decide_eq_true_iff).mp q).1 c16))).symm | exact (bz_f (fun q => c38 (((cm_b decide_eq_true_iff decide_eq_true_iff).mp q).2 c29))).symm) ?_
            refine v_callSi hz lX8_229 (cX8_bit_ok _ _ _ _ _ _ _) rfl rfl (Nat.le_of_ble_eq_true rfl) (by decide) ⟨Nat.zero_le _, Nat.zero_le _⟩ dX8_canMany_46 (fun r I3 q46 => ?_)
            obtain ⟨rfl, eI⟩ := q46
            rw [eI]
            refine v_top (bz_ite _) ?_
            first | with_reducible refine v_iaddN hz dX8_canMany_49 ?_ | refine v_iadd hz dX8_canMany_49 ?_
            refine v_istore_n hz dX8_canMany_50 (by decide) rfl ?_
            first | refine v_iincN hz 1 dX8_canMany_51 (by decide) rfl (by decide) rfl ?_ | refine v_iinc hz dX8_canMany_51 rfl (by decide) rfl ?_
            refine v_goto hz 5 dX8_canMany_54 (by decide) ?_
            first
            | (exact v_sub (ih (a + 1) _ (by omega) (by omega) hQ) ⟨rfl, rfl, rfl, rfl, rfl, trivial⟩)
            | (exact v_sub (ih (a + 1) _ (by omega) (by omega) (hQ.tr hG)) ⟨rfl, rfl, rfl, rfl, rfl, trivial⟩)
set_option maxHeartbeats 4000000 in
set_option maxRecDepth 100000 in
theorem cX8_canMany_ok (l : Launch) (g : Gz) (κ : Kz) (I : Iz) (R : Rz) (J : Jz) (A : Nat → Nat) (hm : LM κ R A) (pg : Nat → Nat) (n kn : Nat) (ks : Nat → Sg) (tm : Nat → Int32) (T : Sg) (qa w bd : Nat) (te td : Int32) (hs : MS I A pg n kn ks tm T qa w bd te td) (hv : ∀ i, i < kn → okQ (ks i)) (hvT : 0 < qa → okQ T) (hqa : 0 < qa) (p1 p2 : Bool) : Ct l mX8_canMany 0 0 g [.ref (A 130), .int (bz (p1 = true)), .int (bz (p2 = true))] κ I R J (Si κ R J (fun r I1 => r = nI (sm (fun i => if (((!p1) || lnB w bd ks T i) && ((!p2) || gmB w bd ks T i)) then 1 else 0) kn) ∧ QF A I I1)) := by
  refine ct_of (by decide) (Nat.le_of_ble_eq_true rfl) ?_
  intro z hz hr hrc hrs
  have hz : Am z cX8_canMany RX8 5 6 := hz
  have hr : Rt z yX8_canMany (some .int) 0 0 _ := hr
  show V z 5 0 0 0 [(0, .ref (A 130)), (1, .int (bz (p1 = true))), (2, .int (bz (p2 = true)))] [] κ I R J
  have hk := hm.k
  have ho := hm.o
  refine v_ic (v := nI 0) hz dX8_canMany_0 (by decide) ?_
  refine v_istore_n hz dX8_canMany_1 (by decide) rfl ?_
  refine v_ic (v := nI 0) hz dX8_canMany_2 (by decide) ?_
  refine v_istore hz dX8_canMany_3 (by decide) rfl ?_
  exact v_sub (lp_canMany hm hz hs hv hvT hqa hr (kn + 1) 0 I (by omega) (by omega) QF.rf) ⟨rfl, rfl, rfl, rfl, rfl, trivial⟩
set_option maxHeartbeats 4000000 in
set_option maxRecDepth 100000 in
theorem lp_coveredMany {z : Zz} {κ : Kz} {I0 : Iz} {R : Rz} {J : Jz} {A : Nat → Nat} (hm : LM κ R A) (hz : Am z cX8_coveredMany RX8 3 9) {pg : Nat → Nat} {n kn : Nat} {ks : Nat → Sg} {tm : Nat → Int32} {T : Sg} {qa w bd : Nat} {te td : Int32} {I : Iz} (hT8 : T.1 ≤ 8) (hQ : QF A I0 I) (e12 : I (A 134) 12 = nI T.1) (hcv : ∀ x, x < 8 → I (A 158) x = bz (cvF w bd ks T kn x = true)) (hr : Rt z yX8_coveredMany (some .int) 0 0 (Si κ R J (fun r I1 => r = nI (sm (fun i => if cvF w bd ks T kn i then 1 else 0) 8) ∧ QF A I0 I1))) :
    ∀ (m k : Nat), k ≤ T.1 → T.1 + 1 ≤ k + m → V z 3 0 0 8 [(0, .ref (A 130)), (1, .int (nI (sm (fun i => if cvF w bd ks T kn i then 1 else 0) k))), (2, .int (nI k))] [] κ I R J := by
  have hk := hm.k
  have ho := hm.o
  have hR4 := hm.r4
  have hK4 := hm.k4
  have hN4 := hm.n4
  have hO4 := hm.o4
  have hR28 := hm.r28
  have hK28 := hm.k28
  have hN28 := hm.n28
  have hO28 := hm.o28
  intro m
  induction m with
  | zero => intro k hk9 hm9; exact absurd hm9 (by omega)
  | succ m ih =>
  intro k hk9 hm9
  refine v_iload_n hz dX8_coveredMany_8 rfl ?_
  refine v_aload_n hz dX8_coveredMany_9 rfl ?_
  refine v_getR hz fX8_13 (by assumption) (by assumption) dX8_coveredMany_10 ?_
  refine v_bi (v := nI 12) hz dX8_coveredMany_13 (by decide) ?_
  refine v_ialdN hz (by assumption) (by assumption) (by omega) (by decide) dX8_coveredMany_15 ?_
  refine v_top e12 ?_
  first | with_reducible refine v_icmp_geN hz 37 (by omega) (by omega) dX8_coveredMany_16 (by decide) (fun c16 => ?_) (fun c16 => ?_) | refine v_icmp_ge hz 37 dX8_coveredMany_16 (by decide) (fun c16 => ?_) (fun c16 => ?_)
  · refine v_iload_n hz dX8_coveredMany_37 rfl (v_iret hz hr dX8_coveredMany_38 ⟨?_, hQ⟩)
    have e := sm_cut (f := (fun i => if cvF w bd ks T kn i then 1 else 0)) (n := T.1) (fun i hi => by
      have : cvF w bd ks T kn i = false := cvk_out hi kn
      rw [this]
      rfl) (8 - T.1)
    rw [show T.1 + (8 - T.1) = 8 by omega] at e
    rw [e, show k = T.1 by omega]
  · refine v_iload_n hz dX8_coveredMany_19 rfl ?_
    refine v_aload_n hz dX8_coveredMany_20 rfl ?_
    refine v_getR hz fX8_68 (by assumption) (by assumption) dX8_coveredMany_21 ?_
    refine v_iload_n hz dX8_coveredMany_24 rfl ?_
    refine v_zaldN hz (by assumption) (by assumption) (by omega) (by decide) dX8_coveredMany_25 ?_
    refine v_top (hcv k (by omega)) ?_
    refine v_callSi hz lX8_229 (cX8_bit_ok _ _ _ _ _ _ _) rfl rfl (Nat.le_of_ble_eq_true rfl) (by decide) ⟨Nat.zero_le _, Nat.zero_le _⟩ dX8_coveredMany_26 (fun r I3 q26 => ?_)
    obtain ⟨rfl, eI⟩ := q26
    rw [eI]
    refine v_top (bz_ite _) ?_
    first | with_reducible refine v_iaddN hz dX8_coveredMany_29 ?_ | refine v_iadd hz dX8_coveredMany_29 ?_
    refine v_istore_n hz dX8_coveredMany_30 (by decide) rfl ?_
    first | refine v_iincN hz 1 dX8_coveredMany_31 (by decide) rfl (by decide) rfl ?_ | refine v_iinc hz dX8_coveredMany_31 rfl (by decide) rfl ?_
    refine v_goto hz 8 dX8_coveredMany_34 (by decide) ?_
    exact v_sub (ih (k + 1) (by omega) (by omega)) ⟨rfl, rfl, rfl, trivial⟩
set_option maxHeartbeats 4000000 in
set_option maxRecDepth 100000 in
theorem cX8_coveredMany_ok (l : Launch) (g : Gz) (κ : Kz) (I : Iz) (R : Rz) (J : Jz) (A : Nat → Nat) (hm : LM κ R A) (pg : Nat → Nat) (n kn : Nat) (ks : Nat → Sg) (tm : Nat → Int32) (T : Sg) (qa w bd : Nat) (te td : Int32) (hs : MS I A pg n kn ks tm T qa w bd te td) (hv : ∀ i, i < kn → okQ (ks i)) (hvT : 0 < qa → okQ T) (hqa : 0 < qa) : Ct l mX8_coveredMany 0 0 g [.ref (A 130)] κ I R J (Si κ R J (fun r I1 => r = nI (sm (fun i => if cvF w bd ks T kn i then 1 else 0) 8) ∧ QF A I I1)) := by
  refine ct_of (by decide) (Nat.le_of_ble_eq_true rfl) ?_
  intro z hz hr hrc hrs
  have hz : Am z cX8_coveredMany RX8 3 9 := hz
  have hr : Rt z yX8_coveredMany (some .int) 0 0 _ := hr
  show V z 3 0 0 0 [(0, .ref (A 130))] [] κ I R J
  have hk := hm.k
  have ho := hm.o
  have hR4 := hm.r4
  have hK4 := hm.k4
  have hN4 := hm.n4
  have hO4 := hm.o4
  have hR28 := hm.r28
  have hK28 := hm.k28
  have hN28 := hm.n28
  have hO28 := hm.o28
  refine v_aload_n hz dX8_coveredMany_0 rfl ?_
  refine v_callVv hz lX8_254 (cX8_layCovered_ok _ _ _ _ _ _ A hm pg n kn ks tm T qa w bd te td hs hv hvT hqa) (by assumption) rfl rfl (Nat.le_of_ble_eq_true rfl) (by decide) ⟨Nat.zero_le _, Nat.zero_le _⟩ dX8_coveredMany_1 (fun I2 q1 => ?_)
  obtain ⟨hQ, hcv⟩ := q1
  have hs2 := hQ.ms hm hs
  refine v_ic (v := nI 0) hz dX8_coveredMany_4 (by decide) ?_
  refine v_istore_n hz dX8_coveredMany_5 (by decide) rfl ?_
  refine v_ic (v := nI 0) hz dX8_coveredMany_6 (by decide) ?_
  refine v_istore_n hz dX8_coveredMany_7 (by decide) rfl ?_
  exact v_sub (lp_coveredMany hm hz (pg := pg) (n := n) (tm := tm) (qa := qa) (te := te) (td := td) (hvT hqa).1.2.1 hQ (hs2.2.2.1.2.2 hqa).2.2.1 hcv hr (T.1 + 1) 0 (by omega) (by omega)) ⟨rfl, rfl, rfl, trivial⟩
set_option maxHeartbeats 4000000 in
set_option maxRecDepth 100000 in
theorem cX8_covered_ok (l : Launch) (g : Gz) (κ : Kz) (I : Iz) (R : Rz) (J : Jz) (A : Nat → Nat) (hm : LM κ R A) (pg : Nat → Nat) (n kn : Nat) (ks : Nat → Sg) (tm : Nat → Int32) (T : Sg) (qa w bd : Nat) (te td : Int32) (hs : MS I A pg n kn ks tm T qa w bd te td) (hv : ∀ i, i < kn → okQ (ks i)) (hvT : 0 < qa → okQ T) (x : Int32) : Ct l mX8_covered 0 0 g [.ref (A 130), .int x] κ I R J (Si κ R J (fun r I1 => r = cvdR kn ks T qa w bd x ∧ QF A I I1)) := by
  refine ct_of (by decide) (Nat.le_of_ble_eq_true rfl) ?_
  intro z hz hr hrc hrs
  have hz : Am z cX8_covered RX8 2 9 := hz
  have hr : Rt z yX8_covered (some .int) 0 0 _ := hr
  show V z 2 0 0 0 [(0, .ref (A 130)), (1, .int x)] [] κ I R J
  have hk := hm.k
  have ho := hm.o
  have hR4 := hm.r4
  have hK4 := hm.k4
  have hN4 := hm.n4
  have hO4 := hm.o4
  have hR28 := hm.r28
  have hK28 := hm.k28
  have hN28 := hm.n28
  have hO28 := hm.o28
  obtain ⟨⟨h0, h0a, h0b⟩, ⟨h2, h3, h4⟩, ⟨h5, h6, h7⟩, ⟨⟨h8, h8a⟩, h9, h10⟩, h11, h12⟩ := id hs
  refine v_aload_n hz dX8_covered_0 rfl ?_
  refine v_getI hz fX8_126 (by assumption) dX8_covered_1 ?_
  refine v_top h5 ?_
  first | with_reducible refine v_if_neB hz 11 dX8_covered_4 (by decide) (fun c4 => ?_) (fun c4 => ?_) | with_reducible refine v_if_neN hz 11 (by omega) dX8_covered_4 (by decide) (fun c4 => ?_) (fun c4 => ?_) | refine v_if_ne hz 11 dX8_covered_4 (by decide) (fun c4 => ?_) (fun c4 => ?_)
  · have t8 := (hvT c4).1.2.1
    refine v_iload_n hz dX8_covered_11 rfl ?_
    refine v_ic (v := nI 0) hz dX8_covered_12 (by decide) ?_
    refine v_aload_n hz dX8_covered_13 rfl ?_
    refine v_getR hz fX8_13 (by assumption) (by assumption) dX8_covered_14 ?_
    refine v_bi (v := nI 12) hz dX8_covered_17 (by decide) ?_
    refine v_ialdN hz (by assumption) (by assumption) (by omega) (by decide) dX8_covered_19 ?_
    refine v_top (h7 c4).2.2.1 ?_
    refine v_ic (v := nI 1) hz dX8_covered_20 (by decide) ?_
    refine v_isub hz dX8_covered_21 ?_
    refine v_callSi hz lX8_75 (cX8_within_ok _ _ _ _ _ _ _ _ _) rfl rfl (Nat.le_of_ble_eq_true rfl) (by decide) ⟨Nat.zero_le _, Nat.zero_le _⟩ dX8_covered_22 (fun r I3 q22 => ?_)
    obtain ⟨rfl, eIq22⟩ := q22
    rw [eIq22]
    refine v_top (kpt_w (by omega)) ?_
    first | with_reducible refine v_if_neB hz 32 dX8_covered_25 (by decide) (fun c25 => ?_) (fun c25 => ?_) | with_reducible refine v_if_neN hz 32 (by omega) dX8_covered_25 (by decide) (fun c25 => ?_) (fun c25 => ?_) | refine v_if_ne hz 32 dX8_covered_25 (by decide) (fun c25 => ?_) (fun c25 => ?_)
    · obtain ⟨k, rfl, hkT⟩ := kpt_of (by omega) c25
      refine v_aload_n hz dX8_covered_32 rfl ?_
      refine v_callVv hz lX8_254 (cX8_layCovered_ok _ _ _ _ _ _ A hm pg n kn ks tm T qa w bd te td hs hv hvT c4) (by assumption) rfl rfl (Nat.le_of_ble_eq_true rfl) (by decide) ⟨Nat.zero_le _, Nat.zero_le _⟩ dX8_covered_33 (fun I2 q33 => ?_)
      obtain ⟨hQ, hcv⟩ := q33
      refine v_aload_n hz dX8_covered_36 rfl ?_
      refine v_getR hz fX8_68 (by assumption) (by assumption) dX8_covered_37 ?_
      refine v_iload_n hz dX8_covered_40 rfl ?_
      refine v_zaldN hz (by assumption) (by assumption) (by omega) (by decide) dX8_covered_41 ?_
      refine v_top (hcv k (by omega)) ?_
      refine v_callSi hz lX8_229 (cX8_bit_ok _ _ _ _ _ _ _) rfl rfl (Nat.le_of_ble_eq_true rfl) (by decide) ⟨Nat.zero_le _, Nat.zero_le _⟩ dX8_covered_42 (fun r I3 q42 => ?_)
      obtain ⟨rfl, eI⟩ := q42
      rw [eI]
      exact v_iret hz hr dX8_covered_45 ⟨by unfold cvdR; rw [if_pos c4, if_pos c25, nI_clamp (by omega)], hQ⟩
    · refine v_si (v := (-1001)) hz dX8_covered_28 (by decide) ?_
      exact v_iret hz hr dX8_covered_31 ⟨by unfold cvdR; rw [if_pos c4, if_neg c25], QF.rf⟩
  · refine v_si (v := (-1003)) hz dX8_covered_7 (by decide) ?_
    exact v_iret hz hr dX8_covered_10 ⟨(if_neg c4).symm, QF.rf⟩
set_option maxHeartbeats 4000000 in
set_option maxRecDepth 100000 in
theorem cX8_questionNow_ok (l : Launch) (g : Gz) (κ : Kz) (I : Iz) (R : Rz) (J : Jz) (A : Nat → Nat) (hm : LM κ R A) (pg : Nat → Nat) (n kn : Nat) (ks : Nat → Sg) (tm : Nat → Int32) (T : Sg) (qa w bd : Nat) (te td : Int32) (hs : MS I A pg n kn ks tm T qa w bd te td) (hv : ∀ i, i < kn → okQ (ks i)) (hvT : 0 < qa → okQ T) (hqa : 0 < qa) (v : Nat) (hv10 : v < 10) : Ct l mX8_questionNow 0 0 g [.ref (A 130), .int (nI v)] κ I R J (Si κ R J (fun r I1 => r = quT w bd ks T kn v ∧ QF A I I1)) := by
  refine ct_of (by decide) (Nat.le_of_ble_eq_true rfl) ?_
  intro z hz hr hrc hrs
  have hz : Am z cX8_questionNow RX8 2 10 := hz
  have hr : Rt z yX8_questionNow (some .int) 0 0 _ := hr
  show V z 2 0 0 0 [(0, .ref (A 130)), (1, .int (nI v))] [] κ I R J
  have hk := hm.k
  have ho := hm.o
  obtain ⟨⟨h0, h0a, h0b⟩, ⟨h2, h3, h4⟩, ⟨h5, h6, h7⟩, ⟨⟨h8, h8a⟩, h9, h10⟩, h11, h12⟩ := id hs
  refine v_iload_n hz dX8_questionNow_0 rfl ?_
  refine v_tsw hz 5 9 [36, 41, 48, 55, 62] 67 dX8_questionNow_1 ⟨rfl, rfl⟩ (by decide) (by decide) (by decide) (fun j1 hj1_1 hj2_1 c1 => ?_) (fun c1 => ?_)
  · rcases (show j1 = 5 ∨ j1 = 6 ∨ j1 = 7 ∨ j1 = 8 ∨ j1 = 9 by omega) with rfl | rfl | rfl | rfl | rfl
    · refine v_pc (pc' := 36) rfl ?_
      have ev : v = 5 := (nI_eq (by omega) (by omega)).mp c1
      subst ev
      refine v_aload_n hz dX8_questionNow_36 rfl ?_
      refine v_callVi hz lX8_257 (cX8_matchesMany_ok _ _ _ _ _ _ A hm pg n kn ks tm T qa w bd te td hs hv hvT hqa) (by assumption) rfl rfl (Nat.le_of_ble_eq_true rfl) (by decide) ⟨Nat.zero_le _, Nat.zero_le _⟩ dX8_questionNow_37 (fun r I1 h37 => ?_)
      exact v_iret hz hr dX8_questionNow_40 ⟨h37.1, h37.2⟩
    · refine v_pc (pc' := 41) rfl ?_
      have ev : v = 6 := (nI_eq (by omega) (by omega)).mp c1
      subst ev
      refine v_aload_n hz dX8_questionNow_41 rfl ?_
      refine v_ic (v := nI 1) hz dX8_questionNow_42 (by decide) ?_
      refine v_ic (v := nI 0) hz dX8_questionNow_43 (by decide) ?_
      refine v_callVi hz lX8_260 (cX8_canMany_ok _ _ _ _ _ _ A hm pg n kn ks tm T qa w bd te td hs hv hvT hqa true false) (by assumption) rfl rfl (Nat.le_of_ble_eq_true rfl) (by decide) ⟨Nat.zero_le _, Nat.zero_le _⟩ dX8_questionNow_44 (fun r I1 h44 => ?_)
      exact v_iret hz hr dX8_questionNow_47 ⟨h44.1.trans (congrArg nI (sm_congr (fun i _ => by simp))), h44.2⟩
    · refine v_pc (pc' := 48) rfl ?_
      have ev : v = 7 := (nI_eq (by omega) (by omega)).mp c1
      subst ev
      refine v_aload_n hz dX8_questionNow_48 rfl ?_
      refine v_ic (v := nI 0) hz dX8_questionNow_49 (by decide) ?_
      refine v_ic (v := nI 1) hz dX8_questionNow_50 (by decide) ?_
      refine v_callVi hz lX8_260 (cX8_canMany_ok _ _ _ _ _ _ A hm pg n kn ks tm T qa w bd te td hs hv hvT hqa false true) (by assumption) rfl rfl (Nat.le_of_ble_eq_true rfl) (by decide) ⟨Nat.zero_le _, Nat.zero_le _⟩ dX8_questionNow_51 (fun r I1 h51 => ?_)
      exact v_iret hz hr dX8_questionNow_54 ⟨h51.1.trans (congrArg nI (sm_congr (fun i _ => by simp))), h51.2⟩
    · refine v_pc (pc' := 55) rfl ?_
      have ev : v = 8 := (nI_eq (by omega) (by omega)).mp c1
      subst ev
      refine v_aload_n hz dX8_questionNow_55 rfl ?_
      refine v_ic (v := nI 1) hz dX8_questionNow_56 (by decide) ?_
      refine v_ic (v := nI 1) hz dX8_questionNow_57 (by decide) ?_
      refine v_callVi hz lX8_260 (cX8_canMany_ok _ _ _ _ _ _ A hm pg n kn ks tm T qa w bd te td hs hv hvT hqa true true) (by assumption) rfl rfl (Nat.le_of_ble_eq_true rfl) (by decide) ⟨Nat.zero_le _, Nat.zero_le _⟩ dX8_questionNow_58 (fun r I1 h58 => ?_)
      exact v_iret hz hr dX8_questionNow_61 ⟨h58.1.trans (congrArg nI (sm_congr (fun i _ => by simp))), h58.2⟩
    · refine v_pc (pc' := 62) rfl ?_
      have ev : v = 9 := (nI_eq (by omega) (by omega)).mp c1
      subst ev
      refine v_aload_n hz dX8_questionNow_62 rfl ?_
      refine v_callVi hz lX8_264 (cX8_coveredMany_ok _ _ _ _ _ _ A hm pg n kn ks tm T qa w bd te td hs hv hvT hqa) (by assumption) rfl rfl (Nat.le_of_ble_eq_true rfl) (by decide) ⟨Nat.zero_le _, Nat.zero_le _⟩ dX8_questionNow_63 (fun r I1 h63 => ?_)
      exact v_iret hz hr dX8_questionNow_66 ⟨h63.1, h63.2⟩
  · have ev : v < 5 := by
      by_cases q : v < 5
      · exact q
      · exact (c1 ⟨v, by omega, by omega, rfl⟩).elim
    refine v_aload_n hz dX8_questionNow_67 rfl ?_
    refine v_bi (v := nI 12) hz dX8_questionNow_68 (by decide) ?_
    refine v_iload_n hz dX8_questionNow_70 rfl ?_
    refine v_callVi hz lX8_192 (cX8_segmentNow_ok _ _ _ _ _ _ A hm 12 v w T (I (A 135) 12) (by omega) ⟨h8, h8a⟩ (h7 hqa) rfl) (by assumption) rfl rfl (Nat.le_of_ble_eq_true rfl) (by decide) ⟨Nat.zero_le _, Nat.zero_le _⟩ dX8_questionNow_71 (fun r I1 h71 => ?_)
    exact v_iret hz hr dX8_questionNow_74 ⟨by rw [h71.1]; unfold quT; rw [if_neg (by omega), if_neg (by omega), if_neg (by omega), if_neg (by omega), if_neg (by omega)]; unfold segT; rcases (show v = 0 ∨ v = 1 ∨ v = 2 ∨ v = 3 ∨ v = 4 by omega) with rfl | rfl | rfl | rfl | rfl <;> rfl, QF.same h71.2⟩
set_option maxHeartbeats 4000000 in
set_option maxRecDepth 100000 in
theorem cX8_question_ok (l : Launch) (g : Gz) (κ : Kz) (I : Iz) (R : Rz) (J : Jz) (A : Nat → Nat) (hm : LM κ R A) (pg : Nat → Nat) (n kn : Nat) (ks : Nat → Sg) (tm : Nat → Int32) (T : Sg) (qa w bd : Nat) (te td : Int32) (hs : MS I A pg n kn ks tm T qa w bd te td) (hv : ∀ i, i < kn → okQ (ks i)) (hvT : 0 < qa → okQ T) (x : Int32) : Ct l mX8_question 0 0 g [.ref (A 130), .int x] κ I R J (Si κ R J (fun r I1 => r = qusR kn ks T qa w bd x ∧ QF A I I1)) := by
  refine ct_of (by decide) (Nat.le_of_ble_eq_true rfl) ?_
  intro z hz hr hrc hrs
  have hz : Am z cX8_question RX8 2 11 := hz
  have hr : Rt z yX8_question (some .int) 0 0 _ := hr
  show V z 2 0 0 0 [(0, .ref (A 130)), (1, .int x)] [] κ I R J
  have hk := hm.k
  have ho := hm.o
  obtain ⟨⟨h0, h0a, h0b⟩, ⟨h2, h3, h4⟩, ⟨h5, h6, h7⟩, ⟨⟨h8, h8a⟩, h9, h10⟩, h11, h12⟩ := id hs
  refine v_iload_n hz dX8_question_0 rfl ?_
  refine v_ic (v := nI 0) hz dX8_question_1 (by decide) ?_
  refine v_bi (v := nI 9) hz dX8_question_2 (by decide) ?_
  refine v_callSi hz lX8_75 (cX8_within_ok _ _ _ _ _ _ _ _ _) rfl rfl (Nat.le_of_ble_eq_true rfl) (by decide) ⟨Nat.zero_le _, Nat.zero_le _⟩ dX8_question_4 (fun r I3 q4 => ?_)
  obtain ⟨rfl, eIq4⟩ := q4
  rw [eIq4]
  refine v_top (wth (k := 10) (by omega) (by omega)) ?_
  first | with_reducible refine v_if_neB hz 14 dX8_question_7 (by decide) (fun c7 => ?_) (fun c7 => ?_) | with_reducible refine v_if_neN hz 14 (by omega) dX8_question_7 (by decide) (fun c7 => ?_) (fun c7 => ?_) | refine v_if_ne hz 14 dX8_question_7 (by decide) (fun c7 => ?_) (fun c7 => ?_)
  · obtain ⟨v, rfl, hv10⟩ := kpt_of (by omega) c7
    refine v_aload_n hz dX8_question_14 rfl ?_
    refine v_getI hz fX8_126 (by assumption) dX8_question_15 ?_
    refine v_top h5 ?_
    first | with_reducible refine v_if_eqB hz 29 dX8_question_18 (by decide) (fun c18 => ?_) (fun c18 => ?_) | with_reducible refine v_if_eqN hz 29 (by omega) dX8_question_18 (by decide) (fun c18 => ?_) (fun c18 => ?_) | refine v_if_eq hz 29 dX8_question_18 (by decide) (fun c18 => ?_) (fun c18 => ?_)
    · refine v_si (v := (-1003)) hz dX8_question_29 (by decide) ?_
      exact v_iret hz hr dX8_question_32 (by first | exact ⟨by unfold qusR; rw [if_pos c7, if_pos c18, nI_clamp (by omega)]; exact h23.1, h23.2⟩ | exact ⟨by unfold qusR; rw [if_pos c7, if_neg c18], QF.rf⟩)
    · refine v_aload_n hz dX8_question_21 rfl ?_
      refine v_iload_n hz dX8_question_22 rfl ?_
      refine v_callVi hz lX8_267 (cX8_questionNow_ok _ _ _ _ _ _ A hm pg n kn ks tm T qa w bd te td hs hv hvT c18 v hv10) (by assumption) rfl rfl (Nat.le_of_ble_eq_true rfl) (by decide) ⟨Nat.zero_le _, Nat.zero_le _⟩ dX8_question_23 (fun r I1 h23 => ?_)
      refine v_goto hz 32 dX8_question_26 (by decide) ?_
      exact v_iret hz hr dX8_question_32 (by first | exact ⟨by unfold qusR; rw [if_pos c7, if_pos c18, nI_clamp (by omega)]; exact h23.1, h23.2⟩ | exact ⟨by unfold qusR; rw [if_pos c7, if_neg c18], QF.rf⟩)
  · refine v_si (v := (-1002)) hz dX8_question_10 (by decide) ?_
    exact v_iret hz hr dX8_question_13 ⟨(if_neg c7).symm, QF.rf⟩
def grC (x y : Int32) : Prop := ((x = nI 94 ∨ (nI 97 ≤ x ∧ x ≤ nI 122)) ∧ (y = nI 36 ∨ (nI 97 ≤ y ∧ y ≤ nI 122))) ∧ ¬ (x = nI 94 ∧ y = nI 36)
def gr1 (x : Int32) : Nat := if x = nI 94 then 0 else x.toNatClampNeg - 96
def gr2 (y : Int32) : Nat := if y = nI 36 then 0 else y.toNatClampNeg - 96
theorem lett_N {x : Int32} (h : nI 97 ≤ x ∧ x ≤ nI 122) : ∃ c, x = nI c ∧ 97 ≤ c ∧ c ≤ 122 := rng_N (by omega) (by omega) h
theorem gs1 {x y : Int32} (h : grC x y) : (if x = nI 94 then nI 0 else if x = nI 36 then nI 27 else x - nI 97 + nI 1) = nI (gr1 x) ∧ gr1 x ≤ 26 := by
  unfold gr1
  by_cases e : x = nI 94
  · rw [if_pos e, if_pos e]; exact ⟨rfl, by omega⟩
  · obtain ⟨c, rfl, h1, h2⟩ := lett_N (h.1.1.resolve_left e)
    rw [if_neg e, if_neg e, if_neg (fun q => absurd ((nI_eq (by omega) (by omega)).mp q) (by omega)), nI_clamp (by omega), pk_sub (by omega), nI_add]
    exact ⟨congrArg nI (by omega), by omega⟩
theorem gs2 {x y : Int32} (h : grC x y) : (if y = nI 94 then nI 0 else if y = nI 36 then nI 27 else y - nI 97 + nI 1) = nI (if gr2 y = 0 then 27 else gr2 y) ∧ gr2 y ≤ 26 := by
  unfold gr2
  by_cases e : y = nI 36
  · rw [if_pos e, if_pos e, e, if_neg (by decide), if_pos rfl]; exact ⟨rfl, by omega⟩
  · obtain ⟨c, rfl, h1, h2⟩ := lett_N (h.1.2.resolve_left e)
    rw [if_neg e, if_neg e, if_neg (fun q => absurd ((nI_eq (by omega) (by omega)).mp q) (by omega)), nI_clamp (by omega), if_neg (by omega), pk_sub (by omega), nI_add]
    exact ⟨congrArg nI (by omega), by omega⟩
theorem hlm_s (cd : Nat × Nat → Nat) (ks : Nat → Sg) (a c : Nat) : hlm cd ks (a + 1) c = hlm cd ks a c + (if 0 < gct cd (ks a) c then 1 else 0) := rfl
set_option maxHeartbeats 4000000 in
set_option maxRecDepth 100000 in
theorem lp_gram {z : Zz} {κ : Kz} {I0 : Iz} {R : Rz} {J : Jz} {A : Nat → Nat} (hm : LM κ R A) (hz : Am z cX8_gram RX8 6 3) {pg : Nat → Nat} {n kn : Nat} {ks : Nat → Sg} {tm : Nat → Int32} {T : Sg} {qa w bd : Nat} {te td : Int32} (hs : MS I0 A pg n kn ks tm T qa w bd te td) (hv : ∀ i, i < kn → okQ (ks i)) {x y b : Int32} (hc : grC x y) (hr : Rt z yX8_gram (some .int) 0 0 (Si κ R J (fun r I1 => r = grmR kn ks x y ∧ QF A I0 I1))) :
    ∀ (m a : Nat) (I : Iz), a ≤ kn → kn + 1 ≤ a + m → QF A I0 I → V z 6 0 0 58 [(0, .ref (A 130)), (1, .int x), (2, .int y), (4, .int (nI (hlm mcode ks a (mcode (gr1 x, gr2 y))))), (5, .int (nI a))] [] κ I R J := by
  have hk := hm.k
  have ho := hm.o
  have hR23 := hm.r23
  have hK23 := hm.k23
  have hN23 := hm.n23
  have hO23 := hm.o23
  obtain ⟨x1, x2⟩ := gs1 hc
  obtain ⟨y1, y2⟩ := gs2 hc
  have hmc : mcode (gr1 x, gr2 y) = 28 * gr1 x + (if gr2 y = 0 then 27 else gr2 y) := rfl
  have hml : mcode (gr1 x, gr2 y) < 784 := by rw [hmc]; split <;> omega
  intro m
  induction m with
  | zero => intro a I ha hm9; exact absurd hm9 (by omega)
  | succ m ih =>
  intro a I ha hm9 hQ
  have hsI := hQ.ms hm hs
  obtain ⟨⟨h0, h0a, h0b⟩, ⟨h2, h3, h4⟩, ⟨h5, h6, h7⟩, ⟨⟨h8, h8a⟩, h9, h10⟩, h11, h12⟩ := id hsI
  refine v_iload hz dX8_gram_58 rfl ?_
  refine v_aload_n hz dX8_gram_60 rfl ?_
  refine v_getI hz fX8_107 (by assumption) dX8_gram_61 ?_
  refine v_top h3 ?_
  first | with_reducible refine v_icmp_geN hz 109 (by omega) (by omega) dX8_gram_64 (by decide) (fun c64 => ?_) (fun c64 => ?_) | refine v_icmp_ge hz 109 dX8_gram_64 (by decide) (fun c64 => ?_) (fun c64 => ?_)
  · refine v_iload hz dX8_gram_109 rfl (v_iret hz hr dX8_gram_111 ⟨?_, hQ⟩)
    unfold grmR
    rw [if_pos (show (((x = nI 94 ∨ (nI 97 ≤ x ∧ x ≤ nI 122)) ∧ (y = nI 36 ∨ (nI 97 ≤ y ∧ y ≤ nI 122))) ∧ ¬ (x = nI 94 ∧ y = nI 36)) from hc), show kn = a by omega, hlm_code (fun i hi => (hv i (by omega)).1) x2 y2]
    rfl
  · refine v_aload_n hz dX8_gram_67 rfl ?_
    refine v_iload hz dX8_gram_68 rfl ?_
    refine v_callVv hz lX8_179 (cX8_layGrams_ok _ _ _ _ _ _ A hm a (ks a) (h4 a (by omega)).1 (hv a (by omega)).1) (by assumption) rfl rfl (Nat.le_of_ble_eq_true rfl) (by decide) ⟨Nat.zero_le _, Nat.zero_le _⟩ dX8_gram_70 (fun I2 q70 => ?_)
    obtain ⟨hF, hg⟩ := q70
    have gl := gct_le mcode (ks a) (hv a (by omega)).1.2.1 (fun i hi => ((hv a (by omega)).1.2.2 i hi).1) (mcode (gr1 x, gr2 y))
    refine v_iload hz dX8_gram_73 rfl ?_
    refine v_aload_n hz dX8_gram_75 rfl ?_
    refine v_getR hz fX8_56 (by assumption) (by assumption) dX8_gram_76 ?_
    refine v_bi (v := nI 28) hz dX8_gram_79 (by decide) ?_
    refine v_iload_n hz dX8_gram_81 rfl ?_
    refine v_callSi hz lX8_173 (cX8_gramSign_ok _ _ _ _ _ _ _) rfl rfl (Nat.le_of_ble_eq_true rfl) (by decide) ⟨Nat.zero_le _, Nat.zero_le _⟩ dX8_gram_82 (fun r I3 q82 => ?_)
    obtain ⟨rfl, eIq82⟩ := q82
    rw [eIq82]
    refine v_top x1 ?_
    first | with_reducible refine v_imulN hz dX8_gram_85 ?_ | refine v_imul hz dX8_gram_85 ?_
    refine v_iload_n hz dX8_gram_86 rfl ?_
    refine v_callSi hz lX8_173 (cX8_gramSign_ok _ _ _ _ _ _ _) rfl rfl (Nat.le_of_ble_eq_true rfl) (by decide) ⟨Nat.zero_le _, Nat.zero_le _⟩ dX8_gram_87 (fun r I3 q87 => ?_)
    obtain ⟨rfl, eIq87⟩ := q87
    rw [eIq87]
    refine v_top y1 ?_
    first | with_reducible refine v_iaddN hz dX8_gram_90 ?_ | refine v_iadd hz dX8_gram_90 ?_
    rw [← hmc]
    refine v_ialdN hz (by assumption) (by assumption) hml (by decide) dX8_gram_91 ?_
    refine v_top (hg _ hml) ?_
    refine v_join 100 (nI (if 0 < gct mcode (ks a) (mcode (gr1 x, gr2 y)) then 1 else 0)) (fun hj => ?_) ?_
    · first | with_reducible refine v_if_leN hz 99 (by omega) dX8_gram_92 (by decide) (fun c92 => ?_) (fun c92 => ?_) | refine v_if_le hz 99 dX8_gram_92 (by decide) (fun c92 => ?_) (fun c92 => ?_)
      · refine v_ic (v := nI 0) hz dX8_gram_99 (by decide) ?_
        exact v_top (by first | (rw [if_pos (by omega)]) | (rw [if_neg (by omega)])) hj
      · refine v_ic (v := nI 1) hz dX8_gram_95 (by decide) ?_
        refine v_goto hz 100 dX8_gram_96 (by decide) ?_
        exact v_top (by first | (rw [if_pos (by omega)]) | (rw [if_neg (by omega)])) hj
    first | with_reducible refine v_iaddN hz dX8_gram_100 ?_ | refine v_iadd hz dX8_gram_100 ?_
    refine v_istore hz dX8_gram_101 (by decide) rfl ?_
    first | refine v_iincN hz 1 dX8_gram_103 (by decide) rfl (by decide) rfl ?_ | refine v_iinc hz dX8_gram_103 rfl (by decide) rfl ?_
    refine v_goto hz 58 dX8_gram_106 (by decide) ?_
    exact v_sub (ih (a + 1) _ (by omega) (by omega) (hQ.tr (QF.of3 hm hF))) ⟨rfl, rfl, rfl, rfl, rfl, trivial⟩
set_option maxHeartbeats 4000000 in
set_option maxRecDepth 100000 in
theorem cX8_gram_ok (l : Launch) (g : Gz) (κ : Kz) (I : Iz) (R : Rz) (J : Jz) (A : Nat → Nat) (hm : LM κ R A) (pg : Nat → Nat) (n kn : Nat) (ks : Nat → Sg) (tm : Nat → Int32) (T : Sg) (qa w bd : Nat) (te td : Int32) (hs : MS I A pg n kn ks tm T qa w bd te td) (hv : ∀ i, i < kn → okQ (ks i)) (x y : Int32) : Ct l mX8_gram 0 0 g [.ref (A 130), .int x, .int y] κ I R J (Si κ R J (fun r I1 => r = grmR kn ks x y ∧ QF A I I1)) := by
  refine ct_of (by decide) (Nat.le_of_ble_eq_true rfl) ?_
  intro z hz hr hrc hrs
  have hz : Am z cX8_gram RX8 6 3 := hz
  have hr : Rt z yX8_gram (some .int) 0 0 _ := hr
  show V z 6 0 0 0 [(0, .ref (A 130)), (1, .int x), (2, .int y)] [] κ I R J
  have hk := hm.k
  have ho := hm.o
  have hR23 := hm.r23
  have hK23 := hm.k23
  have hN23 := hm.n23
  have hO23 := hm.o23
  obtain ⟨⟨h0, h0a, h0b⟩, ⟨h2, h3, h4⟩, ⟨h5, h6, h7⟩, ⟨⟨h8, h8a⟩, h9, h10⟩, h11, h12⟩ := id hs
  refine v_iload_n hz dX8_gram_0 rfl ?_
  refine v_bi (v := nI 94) hz dX8_gram_1 (by decide) ?_
  refine v_join2 43 (bz (((x = nI 94 ∨ (nI 97 ≤ x ∧ x ≤ nI 122)) ∧ (y = nI 36 ∨ (nI 97 ≤ y ∧ y ≤ nI 122))) ∧ ¬ (x = nI 94 ∧ y = nI 36))) (fun hj => ?_) ?_
  · refine v_icmp_eq hz 13 dX8_gram_3 (by decide) (fun c3 => ?_) (fun c3 => ?_)
    · refine v_iload_n hz dX8_gram_13 rfl ?_
      refine v_bi (v := nI 36) hz dX8_gram_14 (by decide) ?_
      refine v_icmp_eq hz 26 dX8_gram_16 (by decide) (fun c16 => ?_) (fun c16 => ?_)
      · refine v_iload_n hz dX8_gram_26 rfl ?_
        refine v_bi (v := nI 94) hz dX8_gram_27 (by decide) ?_
        refine v_icmp_ne hz 38 dX8_gram_29 (by decide) (fun c29 => ?_) (fun c29 => ?_)
        · refine v_ic (v := nI 1) hz dX8_gram_38 (by decide) ?_
          refine v_goto hz 43 dX8_gram_39 (by decide) ?_
          exact v_top (by first | exact (bz_t ⟨⟨by first | exact Or.inl c3 | exact Or.inr c10, by first | exact Or.inl c16 | exact Or.inr c23⟩, by first | exact fun q => c29 q.1 | exact fun q => c35 q.2⟩).symm | (refine (bz_f ?_).symm; intro q; first | (rcases q.1.1 with q1 | q1 <;> contradiction) | (rcases q.1.2 with q1 | q1 <;> contradiction) | exact q.2 ⟨Classical.not_not.mp c29, c35⟩)) hj
        · refine v_iload_n hz dX8_gram_32 rfl ?_
          refine v_bi (v := nI 36) hz dX8_gram_33 (by decide) ?_
          refine v_icmp_eq hz 42 dX8_gram_35 (by decide) (fun c35 => ?_) (fun c35 => ?_)
          · refine v_ic (v := nI 0) hz dX8_gram_42 (by decide) ?_
            exact v_top (by first | exact (bz_t ⟨⟨by first | exact Or.inl c3 | exact Or.inr c10, by first | exact Or.inl c16 | exact Or.inr c23⟩, by first | exact fun q => c29 q.1 | exact fun q => c35 q.2⟩).symm | (refine (bz_f ?_).symm; intro q; first | (rcases q.1.1 with q1 | q1 <;> contradiction) | (rcases q.1.2 with q1 | q1 <;> contradiction) | exact q.2 ⟨Classical.not_not.mp c29, c35⟩)) hj
          · refine v_ic (v := nI 1) hz dX8_gram_38 (by decide) ?_
            refine v_goto hz 43 dX8_gram_39 (by decide) ?_
            exact v_top (by first | exact (bz_t ⟨⟨by first | exact Or.inl c3 | exact Or.inr c10, by first | exact Or.inl c16 | exact Or.inr c23⟩, by first | exact fun q => c29 q.1 | exact fun q => c35 q.2⟩).symm | (refine (bz_f ?_).symm; intro q; first | (rcases q.1.1 with q1 | q1 <;> contradiction) | (rcases q.1.2 with q1 | q1 <;> contradiction) | exact q.2 ⟨Classical.not_not.mp c29, c35⟩)) hj
      · refine v_iload_n hz dX8_gram_19 rfl ?_
        refine v_callSi hz lX8_217 (cX8_isLetter_ok _ _ _ _ _ _ _) rfl rfl (Nat.le_of_ble_eq_true rfl) (by decide) ⟨Nat.zero_le _, Nat.zero_le _⟩ dX8_gram_20 (fun r I3 q20 => ?_)
        obtain ⟨rfl, eIq20⟩ := q20
        rw [eIq20]
        first | with_reducible refine v_if_eqB hz 42 dX8_gram_23 (by decide) (fun c23 => ?_) (fun c23 => ?_) | with_reducible refine v_if_eqN hz 42 (by omega) dX8_gram_23 (by decide) (fun c23 => ?_) (fun c23 => ?_) | refine v_if_eq hz 42 dX8_gram_23 (by decide) (fun c23 => ?_) (fun c23 => ?_)
        · refine v_ic (v := nI 0) hz dX8_gram_42 (by decide) ?_
          exact v_top (by first | exact (bz_t ⟨⟨by first | exact Or.inl c3 | exact Or.inr c10, by first | exact Or.inl c16 | exact Or.inr c23⟩, by first | exact fun q => c29 q.1 | exact fun q => c35 q.2⟩).symm | (refine (bz_f ?_).symm; intro q; first | (rcases q.1.1 with q1 | q1 <;> contradiction) | (rcases q.1.2 with q1 | q1 <;> contradiction) | exact q.2 ⟨Classical.not_not.mp c29, c35⟩)) hj
        · refine v_iload_n hz dX8_gram_26 rfl ?_
          refine v_bi (v := nI 94) hz dX8_gram_27 (by decide) ?_
          refine v_icmp_ne hz 38 dX8_gram_29 (by decide) (fun c29 => ?_) (fun c29 => ?_)
          · refine v_ic (v := nI 1) hz dX8_gram_38 (by decide) ?_
            refine v_goto hz 43 dX8_gram_39 (by decide) ?_
            exact v_top (by first | exact (bz_t ⟨⟨by first | exact Or.inl c3 | exact Or.inr c10, by first | exact Or.inl c16 | exact Or.inr c23⟩, by first | exact fun q => c29 q.1 | exact fun q => c35 q.2⟩).symm | (refine (bz_f ?_).symm; intro q; first | (rcases q.1.1 with q1 | q1 <;> contradiction) | (rcases q.1.2 with q1 | q1 <;> contradiction) | exact q.2 ⟨Classical.not_not.mp c29, c35⟩)) hj
          · refine v_iload_n hz dX8_gram_32 rfl ?_
            refine v_bi (v := nI 36) hz dX8_gram_33 (by decide) ?_
            refine v_icmp_eq hz 42 dX8_gram_35 (by decide) (fun c35 => ?_) (fun c35 => ?_)
            · refine v_ic (v := nI 0) hz dX8_gram_42 (by decide) ?_
              exact v_top (by first | exact (bz_t ⟨⟨by first | exact Or.inl c3 | exact Or.inr c10, by first | exact Or.inl c16 | exact Or.inr c23⟩, by first | exact fun q => c29 q.1 | exact fun q => c35 q.2⟩).symm | (refine (bz_f ?_).symm; intro q; first | (rcases q.1.1 with q1 | q1 <;> contradiction) | (rcases q.1.2 with q1 | q1 <;> contradiction) | exact q.2 ⟨Classical.not_not.mp c29, c35⟩)) hj
            · refine v_ic (v := nI 1) hz dX8_gram_38 (by decide) ?_
              refine v_goto hz 43 dX8_gram_39 (by decide) ?_
              exact v_top (by first | exact (bz_t ⟨⟨by first | exact Or.inl c3 | exact Or.inr c10, by first | exact Or.inl c16 | exact Or.inr c23⟩, by first | exact fun q => c29 q.1 | exact fun q => c35 q.2⟩).symm | (refine (bz_f ?_).symm; intro q; first | (rcases q.1.1 with q1 | q1 <;> contradiction) | (rcases q.1.2 with q1 | q1 <;> contradiction) | exact q.2 ⟨Classical.not_not.mp c29, c35⟩)) hj
    · refine v_iload_n hz dX8_gram_6 rfl ?_
      refine v_callSi hz lX8_217 (cX8_isLetter_ok _ _ _ _ _ _ _) rfl rfl (Nat.le_of_ble_eq_true rfl) (by decide) ⟨Nat.zero_le _, Nat.zero_le _⟩ dX8_gram_7 (fun r I3 q7 => ?_)
      obtain ⟨rfl, eIq7⟩ := q7
      rw [eIq7]
      first | with_reducible refine v_if_eqB hz 42 dX8_gram_10 (by decide) (fun c10 => ?_) (fun c10 => ?_) | with_reducible refine v_if_eqN hz 42 (by omega) dX8_gram_10 (by decide) (fun c10 => ?_) (fun c10 => ?_) | refine v_if_eq hz 42 dX8_gram_10 (by decide) (fun c10 => ?_) (fun c10 => ?_)
      · refine v_ic (v := nI 0) hz dX8_gram_42 (by decide) ?_
        exact v_top (by first | exact (bz_t ⟨⟨by first | exact Or.inl c3 | exact Or.inr c10, by first | exact Or.inl c16 | exact Or.inr c23⟩, by first | exact fun q => c29 q.1 | exact fun q => c35 q.2⟩).symm | (refine (bz_f ?_).symm; intro q; first | (rcases q.1.1 with q1 | q1 <;> contradiction) | (rcases q.1.2 with q1 | q1 <;> contradiction) | exact q.2 ⟨Classical.not_not.mp c29, c35⟩)) hj
      · refine v_iload_n hz dX8_gram_13 rfl ?_
        refine v_bi (v := nI 36) hz dX8_gram_14 (by decide) ?_
        refine v_icmp_eq hz 26 dX8_gram_16 (by decide) (fun c16 => ?_) (fun c16 => ?_)
        · refine v_iload_n hz dX8_gram_26 rfl ?_
          refine v_bi (v := nI 94) hz dX8_gram_27 (by decide) ?_
          refine v_icmp_ne hz 38 dX8_gram_29 (by decide) (fun c29 => ?_) (fun c29 => ?_)
          · refine v_ic (v := nI 1) hz dX8_gram_38 (by decide) ?_
            refine v_goto hz 43 dX8_gram_39 (by decide) ?_
            exact v_top (by first | exact (bz_t ⟨⟨by first | exact Or.inl c3 | exact Or.inr c10, by first | exact Or.inl c16 | exact Or.inr c23⟩, by first | exact fun q => c29 q.1 | exact fun q => c35 q.2⟩).symm | (refine (bz_f ?_).symm; intro q; first | (rcases q.1.1 with q1 | q1 <;> contradiction) | (rcases q.1.2 with q1 | q1 <;> contradiction) | exact q.2 ⟨Classical.not_not.mp c29, c35⟩)) hj
          · refine v_iload_n hz dX8_gram_32 rfl ?_
            refine v_bi (v := nI 36) hz dX8_gram_33 (by decide) ?_
            refine v_icmp_eq hz 42 dX8_gram_35 (by decide) (fun c35 => ?_) (fun c35 => ?_)
            · refine v_ic (v := nI 0) hz dX8_gram_42 (by decide) ?_
              exact v_top (by first | exact (bz_t ⟨⟨by first | exact Or.inl c3 | exact Or.inr c10, by first | exact Or.inl c16 | exact Or.inr c23⟩, by first | exact fun q => c29 q.1 | exact fun q => c35 q.2⟩).symm | (refine (bz_f ?_).symm; intro q; first | (rcases q.1.1 with q1 | q1 <;> contradiction) | (rcases q.1.2 with q1 | q1 <;> contradiction) | exact q.2 ⟨Classical.not_not.mp c29, c35⟩)) hj
            · refine v_ic (v := nI 1) hz dX8_gram_38 (by decide) ?_
              refine v_goto hz 43 dX8_gram_39 (by decide) ?_
              exact v_top (by first | exact (bz_t ⟨⟨by first | exact Or.inl c3 | exact Or.inr c10, by first | exact Or.inl c16 | exact Or.inr c23⟩, by first | exact fun q => c29 q.1 | exact fun q => c35 q.2⟩).symm | (refine (bz_f ?_).symm; intro q; first | (rcases q.1.1 with q1 | q1 <;> contradiction) | (rcases q.1.2 with q1 | q1 <;> contradiction) | exact q.2 ⟨Classical.not_not.mp c29, c35⟩)) hj
        · refine v_iload_n hz dX8_gram_19 rfl ?_
          refine v_callSi hz lX8_217 (cX8_isLetter_ok _ _ _ _ _ _ _) rfl rfl (Nat.le_of_ble_eq_true rfl) (by decide) ⟨Nat.zero_le _, Nat.zero_le _⟩ dX8_gram_20 (fun r I3 q20 => ?_)
          obtain ⟨rfl, eIq20⟩ := q20
          rw [eIq20]
          first | with_reducible refine v_if_eqB hz 42 dX8_gram_23 (by decide) (fun c23 => ?_) (fun c23 => ?_) | with_reducible refine v_if_eqN hz 42 (by omega) dX8_gram_23 (by decide) (fun c23 => ?_) (fun c23 => ?_) | refine v_if_eq hz 42 dX8_gram_23 (by decide) (fun c23 => ?_) (fun c23 => ?_)
          · refine v_ic (v := nI 0) hz dX8_gram_42 (by decide) ?_
            exact v_top (by first | exact (bz_t ⟨⟨by first | exact Or.inl c3 | exact Or.inr c10, by first | exact Or.inl c16 | exact Or.inr c23⟩, by first | exact fun q => c29 q.1 | exact fun q => c35 q.2⟩).symm | (refine (bz_f ?_).symm; intro q; first | (rcases q.1.1 with q1 | q1 <;> contradiction) | (rcases q.1.2 with q1 | q1 <;> contradiction) | exact q.2 ⟨Classical.not_not.mp c29, c35⟩)) hj
          · refine v_iload_n hz dX8_gram_26 rfl ?_
            refine v_bi (v := nI 94) hz dX8_gram_27 (by decide) ?_
            refine v_icmp_ne hz 38 dX8_gram_29 (by decide) (fun c29 => ?_) (fun c29 => ?_)
            · refine v_ic (v := nI 1) hz dX8_gram_38 (by decide) ?_
              refine v_goto hz 43 dX8_gram_39 (by decide) ?_
              exact v_top (by first | exact (bz_t ⟨⟨by first | exact Or.inl c3 | exact Or.inr c10, by first | exact Or.inl c16 | exact Or.inr c23⟩, by first | exact fun q => c29 q.1 | exact fun q => c35 q.2⟩).symm | (refine (bz_f ?_).symm; intro q; first | (rcases q.1.1 with q1 | q1 <;> contradiction) | (rcases q.1.2 with q1 | q1 <;> contradiction) | exact q.2 ⟨Classical.not_not.mp c29, c35⟩)) hj
            · refine v_iload_n hz dX8_gram_32 rfl ?_
              refine v_bi (v := nI 36) hz dX8_gram_33 (by decide) ?_
              refine v_icmp_eq hz 42 dX8_gram_35 (by decide) (fun c35 => ?_) (fun c35 => ?_)
              · refine v_ic (v := nI 0) hz dX8_gram_42 (by decide) ?_
                exact v_top (by first | exact (bz_t ⟨⟨by first | exact Or.inl c3 | exact Or.inr c10, by first | exact Or.inl c16 | exact Or.inr c23⟩, by first | exact fun q => c29 q.1 | exact fun q => c35 q.2⟩).symm | (refine (bz_f ?_).symm; intro q; first | (rcases q.1.1 with q1 | q1 <;> contradiction) | (rcases q.1.2 with q1 | q1 <;> contradiction) | exact q.2 ⟨Classical.not_not.mp c29, c35⟩)) hj
              · refine v_ic (v := nI 1) hz dX8_gram_38 (by decide) ?_
                refine v_goto hz 43 dX8_gram_39 (by decide) ?_
                exact v_top (by first | exact (bz_t ⟨⟨by first | exact Or.inl c3 | exact Or.inr c10, by first | exact Or.inl c16 | exact Or.inr c23⟩, by first | exact fun q => c29 q.1 | exact fun q => c35 q.2⟩).symm | (refine (bz_f ?_).symm; intro q; first | (rcases q.1.1 with q1 | q1 <;> contradiction) | (rcases q.1.2 with q1 | q1 <;> contradiction) | exact q.2 ⟨Classical.not_not.mp c29, c35⟩)) hj
  refine v_istore_n hz dX8_gram_43 (by decide) rfl ?_
  refine v_iload_n hz dX8_gram_44 rfl ?_
  first | with_reducible refine v_if_neB hz 52 dX8_gram_45 (by decide) (fun c45 => ?_) (fun c45 => ?_) | with_reducible refine v_if_neN hz 52 (by omega) dX8_gram_45 (by decide) (fun c45 => ?_) (fun c45 => ?_) | refine v_if_ne hz 52 dX8_gram_45 (by decide) (fun c45 => ?_) (fun c45 => ?_)
  · refine v_ic (v := nI 0) hz dX8_gram_52 (by decide) ?_
    refine v_istore hz dX8_gram_53 (by decide) rfl ?_
    refine v_ic (v := nI 0) hz dX8_gram_55 (by decide) ?_
    refine v_istore hz dX8_gram_56 (by decide) rfl ?_
    exact v_sub (lp_gram hm hz (b := 0) hs hv c45 hr (kn + 1) 0 I (by omega) (by omega) QF.rf) ⟨rfl, rfl, rfl, rfl, rfl, trivial⟩
  · refine v_si (v := (-1002)) hz dX8_gram_48 (by decide) ?_
    exact v_iret hz hr dX8_gram_51 ⟨(if_neg c45).symm, QF.rf⟩
