/-! ===== the two numberings of grams; what is told ===== -/
theorem sm_add (f : Nat → Nat) (p : Nat) : ∀ q, sm f (p + q) = sm f p + sm (fun x => f (p + x)) q
  | 0 => rfl
  | q + 1 => by
    show sm f (p + q) + f (p + q) = sm f p + (sm (fun x => f (p + x)) q + f (p + q))
    rw [sm_add f p q]
    omega
theorem sm_mul (f : Nat → Nat) (m : Nat) : ∀ n, sm f (m * n) = sm (fun a => sm (fun x => f (m * a + x)) m) n
  | 0 => rfl
  | n + 1 => by
    rw [Nat.mul_succ, sm_add, sm_mul f m n]
    rfl
theorem sm_front (f : Nat → Nat) : ∀ n, sm f (n + 1) = f 0 + sm (fun x => f (x + 1)) n
  | 0 => by
    show 0 + f 0 = f 0 + 0
    omega
  | n + 1 => by
    show sm f (n + 1) + f (n + 1) = f 0 + (sm (fun x => f (x + 1)) n + f (n + 1))
    rw [sm_front f n]
    omega
theorem code_sum {F H : Nat → Nat} (h1 : ∀ a b, a ≤ 26 → b ≤ 26 → F (mcode (a, b)) = H (ccode (a, b))) (h0 : ∀ c, (c % 28 = 0 ∨ 756 ≤ c) → F c = 0) : smw F 784 = smw H 729 := by
  rw [smw_eq, smw_eq, show (784 : Nat) = 28 * 28 from rfl, show (729 : Nat) = 27 * 27 from rfl, sm_mul, sm_mul]
  have e27 : sm (fun x => F (28 * 27 + x)) 28 = 0 := by
    have : sm (fun x => F (28 * 27 + x)) 28 = sm (fun _ => 0) 28 := sm_congr (fun x hx => h0 _ (Or.inr (by omega)))
    rw [this]
    rfl
  show sm (fun a => sm (fun x => F (28 * a + x)) 28) 27 + sm (fun x => F (28 * 27 + x)) 28 = _
  rw [e27, Nat.add_zero]
  refine sm_congr (fun a ha => ?_)
  have e1 : sm (fun x => F (28 * a + x)) 28 = F (28 * a + 0) + sm (fun x => F (28 * a + (x + 1))) 27 := sm_front _ 27
  have e2 : sm (fun x => H (27 * a + x)) 27 = H (27 * a + 0) + sm (fun x => H (27 * a + (x + 1))) 26 := sm_front _ 26
  have e3 : sm (fun x => F (28 * a + (x + 1))) 27 = sm (fun x => F (28 * a + (x + 1))) 26 + F (28 * a + (26 + 1)) := rfl
  rw [e1, e2, e3, h0 (28 * a + 0) (Or.inl (by omega))]
  have e4 : F (28 * a + (26 + 1)) = H (27 * a + 0) := h1 a 0 (by omega) (by omega)
  have e5 : sm (fun x => F (28 * a + (x + 1))) 26 = sm (fun x => H (27 * a + (x + 1))) 26 := sm_congr (fun x hx => by
    have := h1 a (x + 1) (by omega) (by omega)
    unfold mcode ccode at this
    dsimp only at this
    rw [if_neg (by omega)] at this
    exact this)
  rw [e4, e5]
  omega
theorem gp_rng {L : Nat} {T : Nat → Nat} {k : Nat} (hl : ltr L T) (hk : k < L + 1) : (gp L T k).1 ≤ 26 ∧ (gp L T k).2 ≤ 26 := by
  unfold gp
  dsimp only
  constructor
  · by_cases e : k = 0
    · rw [if_pos e]; omega
    · rw [if_neg e]; have := hl (k - 1) (by omega); omega
  · by_cases e : k = L
    · rw [if_pos e]; omega
    · rw [if_neg e]; have := hl k (by omega); omega
theorem code_iff {g h : Nat × Nat} (g1 : g.1 ≤ 26) (g2 : g.2 ≤ 26) (h1 : h.1 ≤ 26) (h2 : h.2 ≤ 26) : mcode g = mcode h ↔ ccode g = ccode h := by
  unfold mcode ccode
  split <;> split <;> omega
theorem gct_code {S : Sg} (hS : okS S) {g : Nat × Nat} (g1 : g.1 ≤ 26) (g2 : g.2 ≤ 26) : gct mcode S (mcode g) = gct ccode S (ccode g) := by
  unfold gct gcs
  refine sm_congr (fun i hi => ?_)
  by_cases e : 0 < S.2.1 i
  · rw [if_pos e, if_pos e]
    unfold gcw
    refine sm_congr (fun k hk => ?_)
    have r := gp_rng (hS.2.2 i hi).2.2 hk
    have c := code_iff r.1 r.2 g1 g2
    by_cases q : mcode (gp (S.2.1 i) (S.2.2.2 i) k) = mcode g
    · rw [if_pos q, if_pos (c.mp q)]
    · rw [if_neg q, if_neg (fun x => q (c.mpr x))]
  · rw [if_neg e, if_neg e]
theorem sm_zero {f : Nat → Nat} {n : Nat} (h : ∀ i, i < n → f i = 0) : sm f n = 0 := by
  rw [sm_congr (g := fun _ => 0) h]
  induction n with
  | zero => rfl
  | succ n ih => show sm (fun _ => 0) n + 0 = 0; rw [ih (fun i hi => h i (by omega))]
theorem gct_out {S : Sg} (hS : okS S) {c : Nat} (hc : c % 28 = 0 ∨ 756 ≤ c) : gct mcode S c = 0 := by
  unfold gct gcs
  refine sm_zero (fun i hi => ?_)
  by_cases e : 0 < S.2.1 i
  · rw [if_pos e]
    unfold gcw
    refine sm_zero (fun k hk => ?_)
    have r := gp_rng (hS.2.2 i hi).2.2 hk
    refine if_neg (fun q => ?_)
    unfold mcode at q
    split at q <;> omega
  · rw [if_neg e]
def shn (S T : Sg) : Nat := shC (gct ccode S) (gct ccode T)
theorem shM_eq {S T : Sg} (hS : okS S) (hT : okS T) : shM (gct mcode S) (gct mcode T) = shn S T :=
  code_sum (F := fun c => min (gct mcode S c) (gct mcode T c)) (H := fun c => min (gct ccode S c) (gct ccode T c)) (fun a b ha hb => by
    rw [gct_code hS ha hb, gct_code hT ha hb]) (fun c hc => by
    rw [gct_out hS hc, Nat.zero_min])
/-- how many of the kept ones have a gram -/
def hlm (cd : Nat × Nat → Nat) (ks : Nat → Sg) (kn c : Nat) : Nat := sm (fun i => if 0 < gct cd (ks i) c then 1 else 0) kn
theorem hlm_code {ks : Nat → Sg} {kn : Nat} (h : ∀ i, i < kn → okS (ks i)) {g : Nat × Nat} (g1 : g.1 ≤ 26) (g2 : g.2 ≤ 26) : hlm mcode ks kn (mcode g) = hlm ccode ks kn (ccode g) := sm_congr (fun i hi => by rw [gct_code (h i hi) g1 g2])
theorem hlm_le (cd : Nat × Nat → Nat) (ks : Nat → Sg) (kn c : Nat) : hlm cd ks kn c ≤ kn := by
  have := sm_le (f := fun i => if 0 < gct cd (ks i) c then 1 else 0) (c := 1) (fun i => by split <;> omega) kn
  unfold hlm
  omega
def kznM (ks : Nat → Sg) (kn : Nat) : Nat := smw (fun c => if 0 < hlm mcode ks kn c then 1 else 0) 784
theorem kznM_eq {ks : Nat → Sg} {kn : Nat} (h : ∀ i, i < kn → okS (ks i)) : kznM ks kn = kzn (hlm ccode ks kn) :=
  code_sum (fun a b ha hb => by
    rw [hlm_code h ha hb]) (fun c hc => by
    have : hlm mcode ks kn c = 0 := sm_zero (fun i hi => by rw [gct_out (h i hi) hc]; rfl)
    rw [this]
    rfl)
/-! what is told -/
noncomputable def nsf (w : Nat) (S T : Sg) : Nat := Classical.epsilon (isNs w S T)
theorem nsf_eq {w : Nat} {S T : Sg} {k : Nat} (h : isNs w S T k) : nsf w S T = k := isNs.one (Classical.epsilon_spec (p := isNs w S T) ⟨k, h⟩) h
noncomputable def twT (w : Nat) (S T : Sg) (v : Nat) : Int32 := if v = 0 then nI (pay w S T 0 0) else if v = 1 then nI (cal w S + cal w T) else if v = 2 then nI (sco w S T) else if v = 3 then nI (shn S T) else nI (nsf w S T)
noncomputable def nrT (w bd : Nat) (S T : Sg) (v : Nat) : Int32 := if v = 5 then nI (rmO bd (cal w S + cal w T)) else if v = 6 then cbL w (wds S) (wds T) (S.1 - wds S) (T.1 - wds T) (rmO bd (cal w S + cal w T)) else if v = 7 then cbG (grn S) (grn T) (shn S T) (rmO bd (cal w S + cal w T)) else if v = 8 then bz (bd ≤ sco w S T) else if v = 9 then nI (ttg w S T (nsf w S T)) else twT w S T v
def isKp (kn : Nat) (x : Int32) : Prop := 0 ≤ x ∧ x < nI kn
def sgnT (L D : Nat) (T : Nat → Nat) (v : Nat) : Int32 := if v = 0 then nI L else if v = 1 then nI D else if v - 2 < L then nI (T (v - 2)) else -1
def segR (kn : Nat) (ks : Nat → Sg) (tm : Nat → Int32) (w : Nat) (x y : Int32) : Int32 := if 0 ≤ x ∧ x < nI kn then (if 0 ≤ y ∧ y < nI 6 then segT (ks x.toNatClampNeg) (tm x.toNatClampNeg) w y.toNatClampNeg else -1002) else -1001
def sgnR (kn : Nat) (ks : Nat → Sg) (x y v : Int32) : Int32 := if (0 ≤ x ∧ x < nI kn) ∧ (0 ≤ y ∧ y < nI (ks x.toNatClampNeg).1) then (if 0 ≤ v ∧ v < nI 14 then sgnT ((ks x.toNatClampNeg).2.1 y.toNatClampNeg) ((ks x.toNatClampNeg).2.2.1 y.toNatClampNeg) ((ks x.toNatClampNeg).2.2.2 y.toNatClampNeg) v.toNatClampNeg else -1002) else -1001
def alkR (kn : Nat) (ks : Nat → Sg) (a i b j : Int32) : Int32 := if ((0 ≤ a ∧ a < nI kn) ∧ (0 ≤ i ∧ i < nI (ks a.toNatClampNeg).1)) ∧ ((0 ≤ b ∧ b < nI kn) ∧ (0 ≤ j ∧ j < nI (ks b.toNatClampNeg).1)) then (if 0 < (ks a.toNatClampNeg).2.1 i.toNatClampNeg ∧ 0 < (ks b.toNatClampNeg).2.1 j.toNatClampNeg then nI (alk ((ks a.toNatClampNeg).2.1 i.toNatClampNeg) ((ks a.toNatClampNeg).2.2.2 i.toNatClampNeg) ((ks b.toNatClampNeg).2.1 j.toNatClampNeg) ((ks b.toNatClampNeg).2.2.2 j.toNatClampNeg)) else -1) else -1001
noncomputable def twoR (kn : Nat) (ks : Nat → Sg) (w : Nat) (a b v : Int32) : Int32 := if (0 ≤ a ∧ a < nI kn) ∧ (0 ≤ b ∧ b < nI kn) then (if 0 ≤ v ∧ v < nI 5 then twT w (ks a.toNatClampNeg) (ks b.toNatClampNeg) v.toNatClampNeg else -1002) else -1001
noncomputable def nerR (kn : Nat) (ks : Nat → Sg) (T : Sg) (qa w bd : Nat) (x v : Int32) : Int32 := if 0 ≤ x ∧ x < nI kn then (if 0 ≤ v ∧ v < nI 10 then (if 0 < qa then nrT w bd (ks x.toNatClampNeg) T v.toNatClampNeg else -1003) else -1002) else -1001
def stT (w : Nat) (S T : Sg) (k v : Nat) : Int32 := if v = 0 then st0 w S T k else if v = 1 then st1 w S T k else if v = 2 then st2 w S T k else st3 w S T k
noncomputable def stpR (kn : Nat) (ks : Nat → Sg) (T : Sg) (qa w : Nat) (x y v : Int32) : Int32 := if 0 ≤ x ∧ x < nI kn then (if 0 ≤ v ∧ v < nI 4 then (if 0 < qa then (if 0 ≤ y ∧ y < nI (nsf w (ks x.toNatClampNeg) T) then stT w (ks x.toNatClampNeg) T y.toNatClampNeg v.toNatClampNeg else -1001) else -1003) else -1002) else -1001
/-- who matches, the scores, the tags' steps, the steps of the kept ones against the question -/
def mtB (w bd : Nat) (ks : Nat → Sg) (T : Sg) (i : Nat) : Bool := decide (bd ≤ sco w (ks i) T)
def scF (w : Nat) (ks : Nat → Sg) (T : Sg) (i : Nat) : Nat := sco w (ks i) T
noncomputable def tgF (w : Nat) (ks : Nat → Sg) (T : Sg) (i : Nat) : Nat := ttg w (ks i) T (nsf w (ks i) T)
noncomputable def nsF (w : Nat) (ks : Nat → Sg) (T : Sg) (i : Nat) : Nat := nsf w (ks i) T
noncomputable def rkF (w bd : Nat) (ks : Nat → Sg) (T : Sg) (kn : Nat) : Nat × (Nat → Nat) := rkk (mtB w bd ks T) (scF w ks T) (tgF w ks T) kn
noncomputable def cvF (w bd : Nat) (ks : Nat → Sg) (T : Sg) (kn : Nat) : Nat → Bool := cvk w ks T (nsF w ks T) (mtB w bd ks T) kn
def lnB (w bd : Nat) (ks : Nat → Sg) (T : Sg) (i : Nat) : Bool := decide (10 * adf (wds (ks i)) (wds T) + w * adf ((ks i).1 - wds (ks i)) (T.1 - wds T) ≤ rmO bd (cal w (ks i) + cal w T))
def gmB (w bd : Nat) (ks : Nat → Sg) (T : Sg) (i : Nat) : Bool := decide (nI 5 * (nI (max (grn (ks i)) (grn T)) - nI (shn (ks i) T)) ≤ nI (12 * rmO bd (cal w (ks i) + cal w T)))
noncomputable def quT (w bd : Nat) (ks : Nat → Sg) (T : Sg) (kn v : Nat) : Int32 := if v = 5 then nI (rkF w bd ks T kn).1 else if v = 6 then nI (sm (fun i => if lnB w bd ks T i then 1 else 0) kn) else if v = 7 then nI (sm (fun i => if gmB w bd ks T i then 1 else 0) kn) else if v = 8 then nI (sm (fun i => if (lnB w bd ks T i && gmB w bd ks T i) then 1 else 0) kn) else if v = 9 then nI (sm (fun i => if cvF w bd ks T kn i then 1 else 0) 8) else segT T 0 w v
noncomputable def rnkR (kn : Nat) (ks : Nat → Sg) (T : Sg) (qa w bd : Nat) (x : Int32) : Int32 := if 0 < qa then (if 0 ≤ x ∧ x < nI (rkF w bd ks T kn).1 then nI ((rkF w bd ks T kn).2 x.toNatClampNeg) else -1001) else -1003
noncomputable def qusR (kn : Nat) (ks : Nat → Sg) (T : Sg) (qa w bd : Nat) (v : Int32) : Int32 := if 0 ≤ v ∧ v < nI 10 then (if 0 < qa then quT w bd ks T kn v.toNatClampNeg else -1003) else -1002
noncomputable def cvdR (kn : Nat) (ks : Nat → Sg) (T : Sg) (qa w bd : Nat) (x : Int32) : Int32 := if 0 < qa then (if 0 ≤ x ∧ x < nI T.1 then bz (cvF w bd ks T kn x.toNatClampNeg = true) else -1001) else -1003
def cntR (n kn : Nat) (ks : Nat → Sg) (qa w bd : Nat) (te td : Int32) (x : Int32) : Int32 := if x = nI 0 then nI n else if x = nI 1 then nI kn else if x = nI 2 then te else if x = nI 3 then td else if x = nI 4 then nI qa else if x = nI 5 then nI w else if x = nI 6 then nI bd else if x = nI 7 then nI (kzn (hlm ccode ks kn)) else -1002
/-- a letter of a pair, numbered -/
def gmO (x : Int32) : Prop := x = nI 94 ∨ (nI 97 ≤ x ∧ x ≤ nI 122)
def grmR (kn : Nat) (ks : Nat → Sg) (x y : Int32) : Int32 := if ((x = nI 94 ∨ (nI 97 ≤ x ∧ x ≤ nI 122)) ∧ (y = nI 36 ∨ (nI 97 ≤ y ∧ y ≤ nI 122))) ∧ ¬ (x = nI 94 ∧ y = nI 36) then nI (hlm ccode ks kn (ccode (if x = nI 94 then 0 else x.toNatClampNeg - 96, if y = nI 36 then 0 else y.toNatClampNeg - 96))) else -1002
theorem wth {m k : Nat} {x : Int32} (e : m + 1 = k) (hk : k < 2147483648) : bz (nI 0 ≤ x ∧ x ≤ nI m) = bz (0 ≤ x ∧ x < nI k) := by
  rw [← kpt_w hk, pk_sub (show 1 ≤ k by omega), show k - 1 = m by omega]
