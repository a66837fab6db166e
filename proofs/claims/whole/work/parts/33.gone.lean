/-! part 33: taking cells, the beginning that many share; the trap as a tree; gone on both sides -/
section H33
variable {d n N : Nat} {mu : aM} {ro : aR} {sg : aS} {K : Option Value → aS → Prop}
theorem ml4 {a : Nat} : 4 * nI a = nI (4 * a) := by rw [← pk_mul]; rfl
theorem mr4 {a : Nat} : nI a * 4 = nI (4 * a) := by rw [Nat.mul_comm, ← pk_mul]; rfl
theorem ml5 {a : Nat} : 5 * nI a = nI (5 * a) := by rw [← pk_mul]; rfl
theorem ml6 {a : Nat} : 6 * nI a = nI (6 * a) := by rw [← pk_mul]; rfl
theorem ml10 {a : Nat} : 10 * nI a = nI (10 * a) := by rw [← pk_mul]; rfl
theorem ml60 {a : Nat} : 60 * nI a = nI (60 * a) := by rw [← pk_mul]; rfl
theorem ml80 {a : Nat} : 80 * nI a = nI (80 * a) := by rw [← pk_mul]; rfl
theorem nI_ge0 {a : Nat} (h : a < 2 ^ 31) : ((0 : Int32) ≤ nI a) = True := eq_true (nI_pos' h)
theorem nI_lt0 {a : Nat} (h : a < 2 ^ 31) : (nI a < (0 : Int32)) = False := eq_false (nI_pos h)
theorem nI_z {a : Nat} (h : a < 2 ^ 31) : (nI a = (0 : Int32)) = (a = 0) := propext ⟨fun z => (nI_eq h (by decide)).mp z, fun z => by rw [z]; rfl⟩
theorem nI_le0 {a : Nat} (h : a < 2 ^ 31) : (nI a ≤ (0 : Int32)) = (a = 0) := propext ⟨fun z => by have := nI_toInt h; ((try simp only [i_le, i_lt, i_eq, l_le, l_lt, l_eq, i_ne, l_ne, toL, l_add, l_sub1, LIT1, LIT2, Int.reduceNeg, ge_iff_le, gt_iff_lt] at *); omega), fun z => by rw [z]; decide⟩
theorem nI_n9 {a : Nat} (h : a < 2 ^ 31) : (nI a = (-9 : Int32)) = False := eq_false (fun z => by have := nI_toInt h; ((try simp only [i_le, i_lt, i_eq, l_le, l_lt, l_eq, i_ne, l_ne, toL, l_add, l_sub1, LIT1, LIT2, Int.reduceNeg, ge_iff_le, gt_iff_lt] at *); omega))
-- taking
def tkV (s : aS) (x l i w : Int32) : Option (Int32 × Int32) := if ¬ (0 ≤ x.toInt ∧ x.toInt ≤ 3) then some (-1, 0) else if ¬ (0 ≤ l.toInt ∧ l.toInt ≤ 2) then some (-2, 0) else if tkG (0 ≤ (s 85 x.toNatClampNeg).toInt) (s 86 x.toNatClampNeg) (s 85 x.toNatClampNeg) l i w = 0 then none else some (-10 - tkG (0 ≤ (s 85 x.toNatClampNeg).toInt) (s 86 x.toNatClampNeg) (s 85 x.toNatClampNeg) l i w, tkG (0 ≤ (s 85 x.toNatClampNeg).toInt) (s 86 x.toNatClampNeg) (s 85 x.toNatClampNeg) l i w)
theorem tkV_fr {s s' : aS} {x l i w : Int32} (h : ∀ j, s' 85 j = s 85 j) (h2 : ∀ j, s' 86 j = s 86 j) : tkV s' x l i w = tkV s x l i w := by
  unfold tkV
  simp only [h, h2]
theorem tkV_X {s : aS} {x l i w : Int32} (h : ¬ (0 ≤ x.toInt ∧ x.toInt ≤ 3)) : tkV s x l i w = some (-1, 0) := by
  unfold tkV
  rw [if_pos h]
theorem tkG_congr {p q : Prop} [Decidable p] [Decidable q] {a b a' b' l i w : Int32} (h1 : p ↔ q) (h2 : q → a = a' ∧ b = b') : tkG p a b l i w = tkG q a' b' l i w := by
  by_cases hq : q
  · obtain ⟨rfl, rfl⟩ := h2 hq
    have hp := h1.mpr hq
    simp only [tkG, hp, hq]
  · have hp : ¬ p := fun z => hq (h1.mp z)
    simp only [tkG, hp, hq, false_and, if_false, not_false_eq_true, if_true]
theorem tkG_0 {p : Prop} [Decidable p] {a b l i w : Int32} (h : tkG p a b l i w = 0) : p ∧ a = l ∧ 0 ≤ w.toInt ∧ 0 ≤ i.toInt ∧ i.toInt + w.toInt ≤ b.toInt := by
  unfold tkG at h
  by_cases h1 : p ∧ ¬ a = l
  · rw [if_pos h1] at h; exact absurd h (by decide)
  · rw [if_neg h1] at h
    by_cases h2 : p
    · rw [if_neg (not_not_intro h2)] at h
      by_cases h3 : w.toInt < 0
      · rw [if_pos h3] at h; exact absurd h (by decide)
      · rw [if_neg h3] at h
        by_cases h4 : 0 ≤ i.toInt ∧ i.toInt + w.toInt ≤ b.toInt
        · refine ⟨h2, ?_, by omega, h4.1, h4.2⟩
          exact Classical.byContradiction (fun z => h1 ⟨h2, z⟩)
        · rw [if_neg h4] at h; exact absurd h (by decide)
    · rw [if_pos h2] at h; exact absurd h (by decide)
/-- what is taken lies in the sheet, and on both sides the same -/
def tkN (s : aS) (k i w : Nat) : Prop := k < 4 ∧ i + w ≤ 60 ∧ ∀ j, j < w → s (41 + 2 * k) (i + j) = s 87 (60 * k + (i + j))
set_option maxHeartbeats 4000000 in
set_option maxRecDepth 100000 in
theorem c_agX {l i w : Int32} (hk : K (some (.int (-1))) sg) : aCall d 135 [.ref 0, .null, .int l, .int i, .int w] n mu ro sg K := by
  refine aCall_start (mL := 5) (cc := cX11_againstTaking) (o := 11) (ret := (some .int)) 0 (by decide) (by decide +kernel) rfl rfl rfl rfl (Nat.le_of_ble_eq_true rfl) (fun G hC hG => ?_)
  simp only [exL, List.cons_append, List.nil_append, rp_0, rp_1, rp_2, rp_3, rp_4, rp_5, rp_6, rp_7, rp_8, rp_9, rp_10, rp_11, List.append_nil]
  refine hG (fun _ => false) 60 _ _ _ _ (Nat.le_of_ble_eq_true rfl) ?_
  simp only [D_X11_againstTaking, N_X11_againstTaking, ↓reduceIte, vcS, vcC, vcI, gtF, ptF, inS, inV, fv0, fv1, fv2, fv3, fw0, fw1, lg_0, lg_1, lg_2, lg_3, lg_4, lg_5, lg_6, lg_7, lg_8, lg_9, lg_10, lg_11, lg_12, lg_13, lg_14, lsq_0, lsl_0, lsq_1, lsl_1, lsq_2, lsl_2, lsq_3, lsl_3, lsq_4, lsl_4, lsq_5, lsl_5, lsq_6, lsl_6, lsq_7, lsl_7, lsq_8, lsl_8, lsq_9, lsl_9, lsq_10, lsl_10, lsq_11, lsl_11, lsq_12, lsl_12, lsq_13, lsl_13, lsq_14, lsl_14, tk_0, tk_1, tk_2, tk_3, tk_4, tk_5, tk_6, tk_7, tk_8, cs_n, cs_i, cs_l, cs_r, cs_u, nl, rt_s, rt_n, CST1, Nat.reduceAdd, Nat.reduceLeDiff, va_rf, rtOk, Bool.false_eq_true, Bool.true_eq_false, if_false, if_true, ite_true, ite_false, true_and, and_true, eq_self, ne_eq, not_false_eq_true, not_true_eq_false, false_implies, true_implies, and_self, reduceCtorEq, Nat.reduceBEq, Bool.or_false, Bool.false_or, Bool.or_true, Bool.true_or, if1_0, if1_1, if1_01, one_01, zer_01, lg_cmp_ge, lg_cmp_le, lg_cmp_gt, lg_cmp_lt, lg_cmp_eq, Classical.not_not]
  exact hk
set_option maxHeartbeats 4000000 in
set_option maxRecDepth 100000 in
theorem c_agN {k : Nat} {l i w : Int32} (hS : Sh mu ro) (hd : 2 ≤ d) (hI : I_sh sg) (hk4 : k < 4) (hk1 : ∀ r f : Int32, tkV sg (nI k) l i w = some (r, f) → r.toInt < 0 → K (some (.int r)) (s2 sg 0 14 f)) (hk2 : ∀ i' w' : Nat, tkV sg (nI k) l i w = none → i = nI i' → w = nI w' → tkN sg k i' w' → K (some (.int 0)) (s2 sg 0 14 0)) : aCall d 135 [.ref 0, .ref (40 + 2 * k), .int l, .int i, .int w] n mu ro (s2 sg 0 14 0) K := by
  have ez : (nI k).toNatClampNeg = k := nI_clamp (by omega)
  have tz : (nI k).toInt = k := nI_toInt (by omega)
  obtain ⟨y1, y2, y3⟩ := sh_say hI hk4
  have e1 : ∀ j, s2 sg 0 14 0 (40 + 2 * k) j = sg (40 + 2 * k) j := fun j => s2_n (by omega)
  have eT : tkG (¬ s2 sg 0 14 0 (40 + 2 * k) 1 = 0) (s2 sg 0 14 0 (40 + 2 * k) 2) (s2 sg 0 14 0 (40 + 2 * k) 3) l i w = tkG (0 ≤ (sg 85 k).toInt) (sg 86 k) (sg 85 k) l i w := tkG_congr (by rw [e1]; exact y2) (fun q => by rw [e1, e1]; exact ⟨(y3 q).2.1, (y3 q).1⟩)
  have hv : tkV sg (nI k) l i w = if ¬ (0 ≤ l.toInt ∧ l.toInt ≤ 2) then some (-2, 0) else if tkG (0 ≤ (sg 85 k).toInt) (sg 86 k) (sg 85 k) l i w = 0 then none else some (-10 - tkG (0 ≤ (sg 85 k).toInt) (sg 86 k) (sg 85 k) l i w, tkG (0 ≤ (sg 85 k).toInt) (sg 86 k) (sg 85 k) l i w) := by
    unfold tkV
    rw [if_neg (by omega), ez]
  refine c_against hS hd (shm hS hk4).1 (fun q => ?_) (fun q => ?_) (fun q q2 => ?_) (fun f q q2 q3 q4 => ?_)
  · rw [e1] at q
    have := y2.mp q
    rw [e1, (y3 this).1]
    omega
  · exact hk1 (-2) 0 (by rw [hv, if_pos q]) (by decide)
  · rw [eT] at q2
    obtain ⟨z1, z2, z3, z4, z5⟩ := tkG_0 q2
    obtain ⟨i', hi, hi2⟩ := i_of (x := i) (N := 60) (by omega) (by omega) (by decide)
    obtain ⟨w', hw, hw2⟩ := i_of (x := w) (N := 60) (by omega) (by omega) (by decide)
    have ti : i.toInt = i' := by rw [hi2]; exact nI_toInt (by omega)
    have tw : w.toInt = w' := by rw [hw2]; exact nI_toInt (by omega)
    exact hk2 i' w' (by rw [hv, if_neg (not_not_intro q), if_pos q2]) hi2 hw2 ⟨hk4, by omega, fun j hj => (y3 z1).2.2 (i' + j) (by omega)⟩
  · rw [eT] at q2
    have f0 : ¬ f = 0 := fun z => by rw [z] at q3; exact absurd q3 (by decide)
    have := hk1 (-10 - f) f (by rw [hv, if_neg (not_not_intro q), q2, if_neg f0]) (by rw [i_sub (by rw [show (-10 : Int32).toInt = -10 by decide]; omega) (by rw [show (-10 : Int32).toInt = -10 by decide]; omega), show (-10 : Int32).toInt = -10 by decide]; omega)
    rw [s2_s2]
    exact this
set_option maxHeartbeats 4000000 in
set_option maxRecDepth 100000 in
theorem m_bN {k : Nat} {l i w : Int32} (hS : Sh mu ro) (hd : 2 ≤ d) (hk4 : k < 4) (hk1 : ∀ r f : Int32, tkV sg (nI k) l i w = some (r, f) → r.toInt < 0 → K (some (.int r)) (s2 sg 48 0 f)) (hk2 : tkV sg (nI k) l i w = none → K (some (.int 0)) sg) : aCall d 163 [.ref 48, .int (nI k), .int l, .int i, .long w.toInt64] n mu ro sg K := by
  have ez : (nI k).toNatClampNeg = k := nI_clamp (by omega)
  have tz : (nI k).toInt = k := nI_toInt (by omega)
  have hv : tkV sg (nI k) l i w = if ¬ (0 ≤ l.toInt ∧ l.toInt ≤ 2) then some (-2, 0) else if tkG (0 ≤ (sg 85 k).toInt) (sg 86 k) (sg 85 k) l i w = 0 then none else some (-10 - tkG (0 ≤ (sg 85 k).toInt) (sg 86 k) (sg 85 k) l i w, tkG (0 ≤ (sg 85 k).toInt) (sg 86 k) (sg 85 k) l i w) := by
    unfold tkV
    rw [if_neg (by omega), ez]
  refine m_barred hS hd hk4 (fun q => ?_) (fun q q2 => ?_) (fun f q q2 q3 q4 => ?_)
  · exact hk1 (-2) 0 (by rw [hv, if_pos q]) (by decide)
  · exact hk2 (by rw [hv, if_neg (not_not_intro q), if_pos q2])
  · have f0 : ¬ f = 0 := fun z => by rw [z] at q3; exact absurd q3 (by decide)
    exact hk1 (-10 - f) f (by rw [hv, if_neg (not_not_intro q), q2, if_neg f0]) (by rw [i_sub (by rw [show (-10 : Int32).toInt = -10 by decide]; omega) (by rw [show (-10 : Int32).toInt = -10 by decide]; omega), show (-10 : Int32).toInt = -10 by decide]; omega)
theorem allB_at {f : Nat → Int32} {lo hi : Int} : ∀ (m i : Nat), allB f lo hi i m = true → ∀ t, t < m → lo ≤ (f (i + t)).toInt ∧ (f (i + t)).toInt ≤ hi
  | 0, _, _, t, ht => absurd ht (by omega)
  | m + 1, i, h, t, ht => by
    unfold allB at h
    simp only [Bool.and_eq_true, decide_eq_true_eq] at h
    cases t with
    | zero => exact h.1
    | succ t =>
      have := allB_at m (i + 1) h.2 t (by omega)
      rw [show i + 1 + t = i + (t + 1) by omega] at this
      exact this
-- the trap as a tree: L x where the lead x goes (0: nowhere), cb by which sign a state was come to
def Tre (L cb : Nat → Nat) (N : Nat) : Prop := 1 ≤ N ∧ N ≤ 16 ∧ (∀ x, x < 64 → L x ≠ 0 → x / 4 < L x ∧ L x < N ∧ cb (L x) = x % 4) ∧ ∀ x y, x < 64 → y < 64 → L x ≠ 0 → L x = L y → x = y
theorem Tre.n1 {L cb : Nat → Nat} (h : Tre L cb N) : 1 ≤ N := h.1
theorem Tre.n16 {L cb : Nat → Nat} (h : Tre L cb N) : N ≤ 16 := h.2.1
theorem Tre.up {L cb : Nat → Nat} (h : Tre L cb N) : ∀ x, x < 64 → L x ≠ 0 → x / 4 < L x ∧ L x < N ∧ cb (L x) = x % 4 := h.2.2.1
theorem Tre.inj {L cb : Nat → Nat} (h : Tre L cb N) : ∀ x y, x < 64 → y < 64 → L x ≠ 0 → L x = L y → x = y := h.2.2.2
def C_tp (s : aS) (L cb : Nat → Nat) (N : Nat) : Prop := s 30 4 = nI N ∧ (∀ x, x < 64 → s 31 x = nI (L x)) ∧ ∀ x, x < 64 → L x ≠ 0 → s 32 (L x) = nI (cb (L x))
def M_tp (s : aS) (L : Nat → Nat) (N : Nat) : Prop := s 48 36 = nI N ∧ ∀ x, x < 64 → s 75 x = if L x = 0 then -9 else nI (L x)
theorem tp_of {s : aS} (h : I_tp s N) : ∃ L cb, Tre L cb N ∧ C_tp s L cb N ∧ M_tp s L N := by
  obtain ⟨⟨i1, i2⟩, i3, i4, i5, i6, i7, i8⟩ := h
  have key : ∀ x, x < 64 → ((s 31 x).toNatClampNeg = 0 ∧ s 75 x = -9 ∧ s 31 x = 0) ∨ ∃ j, x / 4 < j ∧ j < N ∧ s 75 x = nI j ∧ s 31 x = nI j ∧ s 32 j = nI (x % 4) ∧ (s 31 x).toNatClampNeg = j := by
    intro x hx
    rcases i7 x hx with ⟨q1, q2⟩ | ⟨j, q1, q2, q3, q4, q5⟩
    · exact Or.inl ⟨by rw [q2]; rfl, q1, q2⟩
    · exact Or.inr ⟨j, q1, q2, q3, q4, q5, by rw [q4]; exact nI_clamp (by omega)⟩
  refine ⟨fun x => (s 31 x).toNatClampNeg, fun j => (s 32 j).toNatClampNeg, ⟨i3, i4, fun x hx h0 => ?_, fun x y hx hy h0 he => ?_⟩, ⟨i1, fun x hx => ?_, fun x hx h0 => ?_⟩, ⟨i2, fun x hx => ?_⟩⟩
  · simp only at h0 ⊢
    rcases key x hx with ⟨q1, q2, q3⟩ | ⟨j, q1, q2, q3, q4, q5, q6⟩
    · exact absurd q1 h0
    · rw [q6, q5]
      exact ⟨q1, q2, nI_clamp (by omega)⟩
  · simp only at h0 he
    rcases key x hx with ⟨q1, q2, q3⟩ | ⟨j, q1, q2, q3, q4, q5, q6⟩
    · exact absurd q1 h0
    · rcases key y hy with ⟨p1, p2, p3⟩ | ⟨j', p1, p2, p3, p4, p5, p6⟩
      · rw [p1] at he
        exact absurd he h0
      · have : j = j' := by rw [← q6, ← p6, he]
        subst this
        exact i8 x y hx hy (by rw [q3, p3]) (by rw [q3, nI_toInt (by omega)]; omega)
  · simp only
    rcases key x hx with ⟨q1, q2, q3⟩ | ⟨j, q1, q2, q3, q4, q5, q6⟩
    · rw [q1, q3]; rfl
    · rw [q6, q4]
  · simp only at h0 ⊢
    rcases key x hx with ⟨q1, q2, q3⟩ | ⟨j, q1, q2, q3, q4, q5, q6⟩
    · exact absurd q1 h0
    · rw [q6, q5, nI_clamp (by omega)]
  · simp only
    rcases key x hx with ⟨q1, q2, q3⟩ | ⟨j, q1, q2, q3, q4, q5, q6⟩
    · rw [if_pos q1, q2]
    · rw [q6, if_neg (by omega), q3]
theorem tp_to {s : aS} {L cb : Nat → Nat} (hT : Tre L cb N) (hX : C_tp s L cb N) (hM : M_tp s L N) (hb : s 30 5 = s 48 39) (ha : ∀ j, j < 16 → s 33 j = s 76 j ∧ i_bw (s 76 j) 0 99) : I_tp s N := by
  refine ⟨⟨hX.1, hM.1⟩, hT.n1, hT.n16, hb, ha, fun x hx => ?_, fun x y hx hy he h0 => ?_⟩
  · by_cases h0 : L x = 0
    · exact Or.inl ⟨by rw [hM.2 x hx, if_pos h0], by rw [hX.2.1 x hx, h0]; rfl⟩
    · obtain ⟨u1, u2, u3⟩ := hT.up x hx h0
      exact Or.inr ⟨L x, u1, u2, by rw [hM.2 x hx, if_neg h0], hX.2.1 x hx, by rw [hX.2.2 x hx h0, u3]⟩
  · have hn := hT.n16
    by_cases h1 : L x = 0
    · rw [hM.2 x hx, if_pos h1] at h0
      exact absurd h0 (by decide)
    · by_cases h2 : L y = 0
      · rw [he, hM.2 y hy, if_pos h2] at h0
        exact absurd h0 (by decide)
      · rw [hM.2 x hx, hM.2 y hy, if_neg h1, if_neg h2] at he
        have u1 := hT.up x hx h1
        have u2 := hT.up y hy h2
        exact hT.inj x y hx hy h1 ((nI_eq (by omega) (by omega)).mp he)
-- the trap's small methods by natural numbers
set_option maxHeartbeats 4000000 in
set_option maxRecDepth 100000 in
theorem c_leadsN {s c : Nat} (hS : Sh mu ro) (hs : s < 16) (hc : c < 4) (hk : K (some (.int (sg 31 (4 * s + c)))) sg) : aCall d 69 [.ref 30, .int (nI s), .int (nI c)] n mu ro sg K := by
  have t1 : (nI s).toInt = s := nI_toInt (by omega)
  have t2 : (nI c).toInt = c := nI_toInt (by omega)
  refine c_leadsTo hS (by omega) (by omega) ?_
  rw [nI_clamp (by omega), nI_clamp (by omega)]
  exact hk
set_option maxHeartbeats 4000000 in
set_option maxRecDepth 100000 in
theorem c_isBarN {a b : Nat} (hS : Sh mu ro) (ha : a < 4) (hb : b < 4) (hk : K (some (.int (if bt1 (sg 30 5) (nI (4 * a + b)) then 1 else 0))) sg) : aCall d 67 [.ref 30, .int (nI a), .int (nI b)] n mu ro sg K := by
  have t1 : (nI a).toInt = a := nI_toInt (by omega)
  have t2 : (nI b).toInt = b := nI_toInt (by omega)
  refine c_isBarred hS (by omega) (by omega) ?_
  rw [ml4, nI_add]
  exact hk
set_option maxHeartbeats 4000000 in
set_option maxRecDepth 100000 in
theorem m_isBarN {a b : Nat} (hS : Sh mu ro) (hd : 1 ≤ d) (hk : K (some (.int (if bt1 (sg 48 39) (nI (4 * a + b)) then 1 else 0))) sg) : aCall d 214 [.ref 48, .int (nI a), .int (nI b)] n mu ro sg K := by
  refine m_isBarred hS hd ?_
  rw [ml4, nI_add]
  exact hk
/-- a state may be left by a sign -/
abbrev okG (cb : Nat → Nat) (b : Int32) (s c : Nat) : Prop := s = 0 ∨ ¬ bt1 b (nI (4 * cb s + c))
set_option maxHeartbeats 4000000 in
set_option maxRecDepth 100000 in
theorem c_canGo {s c : Nat} {cb : Nat → Nat} (hS : Sh mu ro) (hd : 1 ≤ d) (hs : s < 16) (hc : c < 4) (hb : s ≠ 0 → sg 32 s = nI (cb s) ∧ cb s < 4) (hk : K (some (.int (if ¬ sg 31 (4 * s + c) = 0 ∧ okG cb (sg 30 5) s c then 1 else 0))) sg) : aCall d 73 [.ref 30, .int (nI s), .int (nI c)] n mu ro sg K := by
  have es : (nI s).toNatClampNeg = s := nI_clamp (by omega)
  have hz := nI_z (a := s) (by omega)
  refine aCall_start (mL := 3) (cc := cX9_canGo) (o := 9) (ret := (some .boolean)) 0 (by decide) (by decide +kernel) rfl rfl rfl rfl (Nat.le_of_ble_eq_true rfl) (fun G hC hG => ?_)
  simp only [exL, List.cons_append, List.nil_append, rp_0, rp_1, rp_2, rp_3, rp_4, rp_5, rp_6, rp_7, rp_8, rp_9, rp_10, rp_11, List.append_nil]
  refine hG (fun _ => false) 60 _ _ _ _ (Nat.le_of_ble_eq_true rfl) ?_
  simp only [D_X9_canGo, N_X9_canGo, ↓reduceIte, vcS, vcC, vcI, gtF, ptF, inS, inV, fv0, fv1, fv2, fv3, fw0, fw1, lg_0, lg_1, lg_2, lg_3, lg_4, lg_5, lg_6, lg_7, lg_8, lg_9, lg_10, lg_11, lg_12, lg_13, lg_14, lsq_0, lsl_0, lsq_1, lsl_1, lsq_2, lsl_2, lsq_3, lsl_3, lsq_4, lsl_4, lsq_5, lsl_5, lsq_6, lsl_6, lsq_7, lsl_7, lsq_8, lsl_8, lsq_9, lsl_9, lsq_10, lsl_10, lsq_11, lsl_11, lsq_12, lsl_12, lsq_13, lsl_13, lsq_14, lsl_14, tk_0, tk_1, tk_2, tk_3, tk_4, tk_5, tk_6, tk_7, tk_8, cs_n, cs_i, cs_l, cs_r, cs_u, nl, rt_s, rt_n, CST1, Nat.reduceAdd, Nat.reduceLeDiff, va_rf, rtOk, Bool.false_eq_true, Bool.true_eq_false, if_false, if_true, ite_true, ite_false, true_and, and_true, eq_self, ne_eq, not_false_eq_true, not_true_eq_false, false_implies, true_implies, and_self, reduceCtorEq, Nat.reduceBEq, Bool.or_false, Bool.false_or, Bool.or_true, Bool.true_or, if1_0, if1_1, if1_01, one_01, zer_01, lg_cmp_ge, lg_cmp_le, lg_cmp_gt, lg_cmp_lt, lg_cmp_eq, Classical.not_not, SHm hS, SHr hS]
  refine ⟨hd, c_leadsN hS hs hc ?_⟩
  by_cases h0 : s = 0
  · have hz' : (nI s = 0) = True := by rw [hz]; exact eq_true h0
    simp only [D_X9_canGo, N_X9_canGo, ↓reduceIte, vcS, vcC, vcI, gtF, ptF, inS, inV, fv0, fv1, fv2, fv3, fw0, fw1, lg_0, lg_1, lg_2, lg_3, lg_4, lg_5, lg_6, lg_7, lg_8, lg_9, lg_10, lg_11, lg_12, lg_13, lg_14, lsq_0, lsl_0, lsq_1, lsl_1, lsq_2, lsl_2, lsq_3, lsl_3, lsq_4, lsl_4, lsq_5, lsl_5, lsq_6, lsl_6, lsq_7, lsl_7, lsq_8, lsl_8, lsq_9, lsl_9, lsq_10, lsl_10, lsq_11, lsl_11, lsq_12, lsl_12, lsq_13, lsl_13, lsq_14, lsl_14, tk_0, tk_1, tk_2, tk_3, tk_4, tk_5, tk_6, tk_7, tk_8, cs_n, cs_i, cs_l, cs_r, cs_u, nl, rt_s, rt_n, CST1, Nat.reduceAdd, Nat.reduceLeDiff, va_rf, rtOk, Bool.false_eq_true, Bool.true_eq_false, if_false, if_true, ite_true, ite_false, true_and, and_true, eq_self, ne_eq, not_false_eq_true, not_true_eq_false, false_implies, true_implies, and_self, reduceCtorEq, Nat.reduceBEq, Bool.or_false, Bool.false_or, Bool.or_true, Bool.true_or, if1_0, if1_1, if1_01, one_01, zer_01, lg_cmp_ge, lg_cmp_le, lg_cmp_gt, lg_cmp_lt, lg_cmp_eq, Classical.not_not, SHm hS, SHr hS, hz']
    refine ⟨fun q => ?_, fun q => ?_⟩
    · rw [if_neg (fun z => z.1 q)] at hk; exact hk
    · rw [if_pos ⟨q, Or.inl h0⟩] at hk; exact hk
  · have hz' : (nI s = 0) = False := by rw [hz]; exact eq_false h0
    obtain ⟨b1, b2⟩ := hb h0
    simp only [D_X9_canGo, N_X9_canGo, ↓reduceIte, vcS, vcC, vcI, gtF, ptF, inS, inV, fv0, fv1, fv2, fv3, fw0, fw1, lg_0, lg_1, lg_2, lg_3, lg_4, lg_5, lg_6, lg_7, lg_8, lg_9, lg_10, lg_11, lg_12, lg_13, lg_14, lsq_0, lsl_0, lsq_1, lsl_1, lsq_2, lsl_2, lsq_3, lsl_3, lsq_4, lsl_4, lsq_5, lsl_5, lsq_6, lsl_6, lsq_7, lsl_7, lsq_8, lsl_8, lsq_9, lsl_9, lsq_10, lsl_10, lsq_11, lsl_11, lsq_12, lsl_12, lsq_13, lsl_13, lsq_14, lsl_14, tk_0, tk_1, tk_2, tk_3, tk_4, tk_5, tk_6, tk_7, tk_8, cs_n, cs_i, cs_l, cs_r, cs_u, nl, rt_s, rt_n, CST1, Nat.reduceAdd, Nat.reduceLeDiff, va_rf, rtOk, Bool.false_eq_true, Bool.true_eq_false, if_false, if_true, ite_true, ite_false, true_and, and_true, eq_self, ne_eq, not_false_eq_true, not_true_eq_false, false_implies, true_implies, and_self, reduceCtorEq, Nat.reduceBEq, Bool.or_false, Bool.false_or, Bool.or_true, Bool.true_or, if1_0, if1_1, if1_01, one_01, zer_01, lg_cmp_ge, lg_cmp_le, lg_cmp_gt, lg_cmp_lt, lg_cmp_eq, Classical.not_not, SHm hS, SHr hS, hz', es, b1]
    refine ⟨fun q => ?_, fun q => ⟨vp_in_nI hs (by decide), hd, c_isBarN hS b2 hc ?_⟩⟩
    · rw [if_neg (fun z => z.1 q)] at hk; exact hk
    · simp only [D_X9_canGo, N_X9_canGo, ↓reduceIte, vcS, vcC, vcI, gtF, ptF, inS, inV, fv0, fv1, fv2, fv3, fw0, fw1, lg_0, lg_1, lg_2, lg_3, lg_4, lg_5, lg_6, lg_7, lg_8, lg_9, lg_10, lg_11, lg_12, lg_13, lg_14, lsq_0, lsl_0, lsq_1, lsl_1, lsq_2, lsl_2, lsq_3, lsl_3, lsq_4, lsl_4, lsq_5, lsl_5, lsq_6, lsl_6, lsq_7, lsl_7, lsq_8, lsl_8, lsq_9, lsl_9, lsq_10, lsl_10, lsq_11, lsl_11, lsq_12, lsl_12, lsq_13, lsl_13, lsq_14, lsl_14, tk_0, tk_1, tk_2, tk_3, tk_4, tk_5, tk_6, tk_7, tk_8, cs_n, cs_i, cs_l, cs_r, cs_u, nl, rt_s, rt_n, CST1, Nat.reduceAdd, Nat.reduceLeDiff, va_rf, rtOk, Bool.false_eq_true, Bool.true_eq_false, if_false, if_true, ite_true, ite_false, true_and, and_true, eq_self, ne_eq, not_false_eq_true, not_true_eq_false, false_implies, true_implies, and_self, reduceCtorEq, Nat.reduceBEq, Bool.or_false, Bool.false_or, Bool.or_true, Bool.true_or, if1_0, if1_1, if1_01, one_01, zer_01, lg_cmp_ge, lg_cmp_le, lg_cmp_gt, lg_cmp_lt, lg_cmp_eq, Classical.not_not, SHm hS, SHr hS]
      refine ⟨fun q2 => ?_, fun q2 => ?_⟩
      · rw [if_neg (fun z => z.2.elim h0 (fun y => y q2))] at hk; exact hk
      · rw [if_pos ⟨q, Or.inr q2⟩] at hk; exact hk
-- gone
def gnF (L : Nat → Nat) (b : Int32) (g : Nat → Nat) : Nat → Nat → Nat → Nat
  | 0, x, _ => x
  | m + 1, x, s => if x ≠ 0 ∧ bt1 b (nI (4 * g (x - 1) + g x)) then x else if L (4 * s + g x) = 0 then x else gnF L b g m (x + 1) (L (4 * s + g x))
set_option maxHeartbeats 4000000 in
set_option maxRecDepth 100000 in
theorem c_goneAlong {k i w : Nat} {L cb g : Nat → Nat} (hS : Sh mu ro) (hd : 2 ≤ d) (hT : Tre L cb N) (hX : C_tp sg L cb N) (hk4 : k < 4) (hg : ∀ j, j < w → sg (41 + 2 * k) (i + j) = nI (g j) ∧ g j < 4) (hiw : i + w ≤ 60) (hk : K (some (.int (nI (gnF L (sg 30 5) g w 0 0)))) sg) : aCall d 74 [.ref 30, .ref (40 + 2 * k), .int (nI i), .int (nI w)] n mu ro sg K := by
  obtain ⟨u1, u2, u3⟩ := shm hS hk4
  have n16 := hT.n16
  refine aCall_start (mL := 7) (cc := cX9_goneAlong) (o := 9) (ret := (some .int)) 3 (by decide) (by decide +kernel) rfl rfl rfl rfl (Nat.le_of_ble_eq_true rfl) (fun G hC hG => ?_)
  simp only [exL, List.cons_append, List.nil_append, rp_0, rp_1, rp_2, rp_3, rp_4, rp_5, rp_6, rp_7, rp_8, rp_9, rp_10, rp_11, List.append_nil]
  have loop : ∀ (m x s : Nat) (v : Value), x + m = w → s < 16 → ((x = 0 ∧ s = 0) ∨ (0 < x ∧ s ≠ 0 ∧ sg 32 s = nI (cb s) ∧ cb s = g (x - 1))) → gnF L (sg 30 5) g w 0 0 = gnF L (sg 30 5) g m x s → AW G 7 n 0 0 mu ro sg 6 [.ref 30, .ref (40 + 2 * k), .int (nI i), .int (nI w), .int (nI s), .int (nI x), v] [] := by
    intro m
    induction m with
    | zero =>
      intro x s v hx hs hb he
      have hq : (nI w ≤ nI x) = True := eq_true (nI_le (by omega) (by omega))
      refine hG (fun q => q == 6) 80 _ _ _ _ (Nat.le_of_ble_eq_true rfl) ?_
      simp only [D_X9_goneAlong, N_X9_goneAlong, ↓reduceIte, vcS, vcC, vcI, gtF, ptF, inS, inV, fv0, fv1, fv2, fv3, fw0, fw1, lg_0, lg_1, lg_2, lg_3, lg_4, lg_5, lg_6, lg_7, lg_8, lg_9, lg_10, lg_11, lg_12, lg_13, lg_14, lsq_0, lsl_0, lsq_1, lsl_1, lsq_2, lsl_2, lsq_3, lsl_3, lsq_4, lsl_4, lsq_5, lsl_5, lsq_6, lsl_6, lsq_7, lsl_7, lsq_8, lsl_8, lsq_9, lsl_9, lsq_10, lsl_10, lsq_11, lsl_11, lsq_12, lsl_12, lsq_13, lsl_13, lsq_14, lsl_14, tk_0, tk_1, tk_2, tk_3, tk_4, tk_5, tk_6, tk_7, tk_8, cs_n, cs_i, cs_l, cs_r, cs_u, nl, rt_s, rt_n, CST1, Nat.reduceAdd, Nat.reduceLeDiff, va_rf, rtOk, Bool.false_eq_true, Bool.true_eq_false, if_false, if_true, ite_true, ite_false, true_and, and_true, eq_self, ne_eq, not_false_eq_true, not_true_eq_false, false_implies, true_implies, and_self, reduceCtorEq, Nat.reduceBEq, Bool.or_false, Bool.false_or, Bool.or_true, Bool.true_or, if1_0, if1_1, if1_01, one_01, zer_01, lg_cmp_ge, lg_cmp_le, lg_cmp_gt, lg_cmp_lt, lg_cmp_eq, Classical.not_not, ↓im_T hq, ↓im_TN hq, hq]
      rw [he] at hk
      have : w = x := by omega
      rw [this]
      exact hk
    | succ m ih =>
      intro x s v hx hs hb he
      have hq : (nI w ≤ nI x) = False := eq_false (nI_ge (by omega) (by omega))
      have ex : (nI (i + x)).toNatClampNeg = i + x := nI_clamp (by omega)
      obtain ⟨g1, g2⟩ := hg x (by omega)
      have hl := hX.2.1 (4 * s + g x) (by omega)
      refine hG (fun q => q == 6) 80 _ _ _ _ (Nat.le_of_ble_eq_true rfl) ?_
      simp only [D_X9_goneAlong, N_X9_goneAlong, ↓reduceIte, vcS, vcC, vcI, gtF, ptF, inS, inV, fv0, fv1, fv2, fv3, fw0, fw1, lg_0, lg_1, lg_2, lg_3, lg_4, lg_5, lg_6, lg_7, lg_8, lg_9, lg_10, lg_11, lg_12, lg_13, lg_14, lsq_0, lsl_0, lsq_1, lsl_1, lsq_2, lsl_2, lsq_3, lsl_3, lsq_4, lsl_4, lsq_5, lsl_5, lsq_6, lsl_6, lsq_7, lsl_7, lsq_8, lsl_8, lsq_9, lsl_9, lsq_10, lsl_10, lsq_11, lsl_11, lsq_12, lsl_12, lsq_13, lsl_13, lsq_14, lsl_14, tk_0, tk_1, tk_2, tk_3, tk_4, tk_5, tk_6, tk_7, tk_8, cs_n, cs_i, cs_l, cs_r, cs_u, nl, rt_s, rt_n, CST1, Nat.reduceAdd, Nat.reduceLeDiff, va_rf, rtOk, Bool.false_eq_true, Bool.true_eq_false, if_false, if_true, ite_true, ite_false, true_and, and_true, eq_self, ne_eq, not_false_eq_true, not_true_eq_false, false_implies, true_implies, and_self, reduceCtorEq, Nat.reduceBEq, Bool.or_false, Bool.false_or, Bool.or_true, Bool.true_or, if1_0, if1_1, if1_01, one_01, zer_01, lg_cmp_ge, lg_cmp_le, lg_cmp_gt, lg_cmp_lt, lg_cmp_eq, Classical.not_not, ↓im_F hq, ↓im_FN hq, hq, u1, u2, u3, SHm hS, SHr hS, nI_add, ex, g1]
      refine ⟨vp_in_nI (by omega) (by decide), by omega, c_canGo (cb := cb) hS (by omega) hs g2 (fun h0 => ?_) ?_⟩
      · rcases hb with ⟨_, b2⟩ | ⟨_, b2, b3, b4⟩
        · exact absurd b2 h0
        · exact ⟨b3, by rw [b4]; exact (hg (x - 1) (by omega)).2⟩
      · have hlz : (sg 31 (4 * s + g x) = 0) = (L (4 * s + g x) = 0) := by
          rw [hl]
          refine nI_z ?_
          by_cases h0 : L (4 * s + g x) = 0
          · omega
          · have := (hT.up (4 * s + g x) (by omega) h0).2.1
            omega
        have hgo : okG cb (sg 30 5) s (g x) ↔ ¬ (x ≠ 0 ∧ bt1 (sg 30 5) (nI (4 * g (x - 1) + g x))) := by
          unfold okG
          rcases hb with ⟨b1, b2⟩ | ⟨b1, b2, b3, b4⟩
          · exact ⟨fun _ z => z.1 b1, fun _ => Or.inl b2⟩
          · rw [b4]
            exact ⟨fun z y => z.elim b2 (fun t => t y.2), fun z => Or.inr (fun t => z ⟨by omega, t⟩)⟩
        rw [gnF] at he
        simp only [D_X9_goneAlong, N_X9_goneAlong, ↓reduceIte, vcS, vcC, vcI, gtF, ptF, inS, inV, fv0, fv1, fv2, fv3, fw0, fw1, lg_0, lg_1, lg_2, lg_3, lg_4, lg_5, lg_6, lg_7, lg_8, lg_9, lg_10, lg_11, lg_12, lg_13, lg_14, lsq_0, lsl_0, lsq_1, lsl_1, lsq_2, lsl_2, lsq_3, lsl_3, lsq_4, lsl_4, lsq_5, lsl_5, lsq_6, lsl_6, lsq_7, lsl_7, lsq_8, lsl_8, lsq_9, lsl_9, lsq_10, lsl_10, lsq_11, lsl_11, lsq_12, lsl_12, lsq_13, lsl_13, lsq_14, lsl_14, tk_0, tk_1, tk_2, tk_3, tk_4, tk_5, tk_6, tk_7, tk_8, cs_n, cs_i, cs_l, cs_r, cs_u, nl, rt_s, rt_n, CST1, Nat.reduceAdd, Nat.reduceLeDiff, va_rf, rtOk, Bool.false_eq_true, Bool.true_eq_false, if_false, if_true, ite_true, ite_false, true_and, and_true, eq_self, ne_eq, not_false_eq_true, not_true_eq_false, false_implies, true_implies, and_self, reduceCtorEq, Nat.reduceBEq, Bool.or_false, Bool.false_or, Bool.or_true, Bool.true_or, if1_0, if1_1, if1_01, one_01, zer_01, lg_cmp_ge, lg_cmp_le, lg_cmp_gt, lg_cmp_lt, lg_cmp_eq, Classical.not_not, u1, u2, u3, SHm hS, SHr hS, hlz]
        refine ⟨fun q => ⟨by omega, c_leadsN hS hs g2 ?_⟩, fun q => ?_⟩
        · obtain ⟨q1, q2⟩ := q
          rw [if_neg (hgo.mp q2), if_neg q1] at he
          obtain ⟨p1, p2, p3⟩ := hT.up (4 * s + g x) (by omega) q1
          simp only [D_X9_goneAlong, N_X9_goneAlong, ↓reduceIte, vcS, vcC, vcI, gtF, ptF, inS, inV, fv0, fv1, fv2, fv3, fw0, fw1, lg_0, lg_1, lg_2, lg_3, lg_4, lg_5, lg_6, lg_7, lg_8, lg_9, lg_10, lg_11, lg_12, lg_13, lg_14, lsq_0, lsl_0, lsq_1, lsl_1, lsq_2, lsl_2, lsq_3, lsl_3, lsq_4, lsl_4, lsq_5, lsl_5, lsq_6, lsl_6, lsq_7, lsl_7, lsq_8, lsl_8, lsq_9, lsl_9, lsq_10, lsl_10, lsq_11, lsl_11, lsq_12, lsl_12, lsq_13, lsl_13, lsq_14, lsl_14, tk_0, tk_1, tk_2, tk_3, tk_4, tk_5, tk_6, tk_7, tk_8, cs_n, cs_i, cs_l, cs_r, cs_u, nl, rt_s, rt_n, CST1, Nat.reduceAdd, Nat.reduceLeDiff, va_rf, rtOk, Bool.false_eq_true, Bool.true_eq_false, if_false, if_true, ite_true, ite_false, true_and, and_true, eq_self, ne_eq, not_false_eq_true, not_true_eq_false, false_implies, true_implies, and_self, reduceCtorEq, Nat.reduceBEq, Bool.or_false, Bool.false_or, Bool.or_true, Bool.true_or, if1_0, if1_1, if1_01, one_01, zer_01, lg_cmp_ge, lg_cmp_le, lg_cmp_gt, lg_cmp_lt, lg_cmp_eq, Classical.not_not, hl, nI_1]
          exact ih (x + 1) (L (4 * s + g x)) _ (by omega) (by omega) (Or.inr ⟨by omega, q1, hX.2.2 _ (by omega) q1, by rw [p3, Nat.add_sub_cancel]; omega⟩) he
        · have : gnF L (sg 30 5) g w 0 0 = x := by
            rw [he]
            by_cases q1 : x ≠ 0 ∧ bt1 (sg 30 5) (nI (4 * g (x - 1) + g x))
            · rw [if_pos q1]
            · rw [if_neg q1, if_pos]
              exact Classical.byContradiction (fun z => q ⟨z, hgo.mpr q1⟩)
          rw [this] at hk
          exact hk
  refine hG (fun q => q == 6) 80 _ _ _ _ (Nat.le_of_ble_eq_true rfl) ?_
  simp only [D_X9_goneAlong, N_X9_goneAlong, ↓reduceIte, vcS, vcC, vcI, gtF, ptF, inS, inV, fv0, fv1, fv2, fv3, fw0, fw1, lg_0, lg_1, lg_2, lg_3, lg_4, lg_5, lg_6, lg_7, lg_8, lg_9, lg_10, lg_11, lg_12, lg_13, lg_14, lsq_0, lsl_0, lsq_1, lsl_1, lsq_2, lsl_2, lsq_3, lsl_3, lsq_4, lsl_4, lsq_5, lsl_5, lsq_6, lsl_6, lsq_7, lsl_7, lsq_8, lsl_8, lsq_9, lsl_9, lsq_10, lsl_10, lsq_11, lsl_11, lsq_12, lsl_12, lsq_13, lsl_13, lsq_14, lsl_14, tk_0, tk_1, tk_2, tk_3, tk_4, tk_5, tk_6, tk_7, tk_8, cs_n, cs_i, cs_l, cs_r, cs_u, nl, rt_s, rt_n, CST1, Nat.reduceAdd, Nat.reduceLeDiff, va_rf, rtOk, Bool.false_eq_true, Bool.true_eq_false, if_false, if_true, ite_true, ite_false, true_and, and_true, eq_self, ne_eq, not_false_eq_true, not_true_eq_false, false_implies, true_implies, and_self, reduceCtorEq, Nat.reduceBEq, Bool.or_false, Bool.false_or, Bool.or_true, Bool.true_or, if1_0, if1_1, if1_01, one_01, zer_01, lg_cmp_ge, lg_cmp_le, lg_cmp_gt, lg_cmp_lt, lg_cmp_eq, Classical.not_not]
  exact loop w 0 0 _ (by omega) (by omega) (Or.inl ⟨rfl, rfl⟩) rfl
def gnR (s : aS) (L : Nat → Nat) (k i w : Nat) : Int32 := if w ≤ 10 ∧ allB (s 87) 0 3 (60 * k + i) w = true then nI (gnF L (s 48 39) (fun j => (s 87 (60 * k + i + j)).toNatClampNeg) w 0 0) else -2
theorem allB_tk {s : aS} {k i w : Nat} {lo hi : Int} (h : tkN s k i w) : allB (s (41 + 2 * k)) lo hi i w = allB (s 87) lo hi (60 * k + i) w := allB_congr w i (60 * k + i) (fun t ht => by rw [h.2.2 t ht, Nat.add_assoc])
theorem Fr_f {s : aS} {x : Int32} : Fr [13] s (s2 s 0 14 x) := by ((repeat (refine Fr.putq (m := 13) ?_ rfl (by decide))); exact Fr.rfl)
theorem Fr.to {ms : List Nat} {s s' : aS} (h : Fr ms s s') {m : Nat} (hm : m ∉ ms) (h0 : m ≠ 0) : ∀ a k, reg a k = m → s' a k = s a k := fun a k q => h a k (by rw [q]; exact hm) (by rw [q]; exact h0)
set_option maxHeartbeats 4000000 in
set_option maxRecDepth 100000 in
theorem c_gone {x l i w : Int32} {L cb : Nat → Nat} (hS : Sh mu ro) (hd : 6 ≤ d) (hI : I_sh sg) (hT : Tre L cb N) (hX : C_tp sg L cb N) (hb : sg 30 5 = sg 48 39) (hk1 : ∀ r f : Int32, tkV sg x l i w = some (r, f) → K (some (.int r)) (s2 sg 0 14 f)) (hk2 : ∀ k i' w' : Nat, tkV sg x l i w = none → x = nI k → i = nI i' → w = nI w' → tkN sg k i' w' → K (some (.int (gnR sg L k i' w'))) (s2 sg 0 14 0)) : aCall d 122 [.ref 0, .int x, .int l, .int i, .int w] n mu ro sg K := by
  refine aCall_start (mL := 7) (cc := cX11_gone) (o := 11) (ret := (some .int)) 2 (by decide) (by decide +kernel) rfl rfl rfl rfl (Nat.le_of_ble_eq_true rfl) (fun G hC hG => ?_)
  simp only [exL, List.cons_append, List.nil_append, rp_0, rp_1, rp_2, rp_3, rp_4, rp_5, rp_6, rp_7, rp_8, rp_9, rp_10, rp_11, List.append_nil]
  refine hG (fun _ => false) 80 _ _ _ _ (Nat.le_of_ble_eq_true rfl) ?_
  simp only [D_X11_gone, N_X11_gone, ↓reduceIte, vcS, vcC, vcI, gtF, ptF, inS, inV, fv0, fv1, fv2, fv3, fw0, fw1, lg_0, lg_1, lg_2, lg_3, lg_4, lg_5, lg_6, lg_7, lg_8, lg_9, lg_10, lg_11, lg_12, lg_13, lg_14, lsq_0, lsl_0, lsq_1, lsl_1, lsq_2, lsl_2, lsq_3, lsl_3, lsq_4, lsl_4, lsq_5, lsl_5, lsq_6, lsl_6, lsq_7, lsl_7, lsq_8, lsl_8, lsq_9, lsl_9, lsq_10, lsl_10, lsq_11, lsl_11, lsq_12, lsl_12, lsq_13, lsl_13, lsq_14, lsl_14, tk_0, tk_1, tk_2, tk_3, tk_4, tk_5, tk_6, tk_7, tk_8, cs_n, cs_i, cs_l, cs_r, cs_u, nl, rt_s, rt_n, CST1, Nat.reduceAdd, Nat.reduceLeDiff, va_rf, rtOk, Bool.false_eq_true, Bool.true_eq_false, if_false, if_true, ite_true, ite_false, true_and, and_true, eq_self, ne_eq, not_false_eq_true, not_true_eq_false, false_implies, true_implies, and_self, reduceCtorEq, Nat.reduceBEq, Bool.or_false, Bool.false_or, Bool.or_true, Bool.true_or, if1_0, if1_1, if1_01, one_01, zer_01, lg_cmp_ge, lg_cmp_le, lg_cmp_gt, lg_cmp_lt, lg_cmp_eq, Classical.not_not, SHm hS, SHr hS]
  by_cases hok : 0 ≤ x.toInt ∧ x.toInt ≤ 3
  · obtain ⟨k, hk4, rfl⟩ := k_of hok
    refine ⟨by omega, c_sheetN hS (by omega) hk4 ?_⟩
    simp only [D_X11_gone, N_X11_gone, ↓reduceIte, vcS, vcC, vcI, gtF, ptF, inS, inV, fv0, fv1, fv2, fv3, fw0, fw1, lg_0, lg_1, lg_2, lg_3, lg_4, lg_5, lg_6, lg_7, lg_8, lg_9, lg_10, lg_11, lg_12, lg_13, lg_14, lsq_0, lsl_0, lsq_1, lsl_1, lsq_2, lsl_2, lsq_3, lsl_3, lsq_4, lsl_4, lsq_5, lsl_5, lsq_6, lsl_6, lsq_7, lsl_7, lsq_8, lsl_8, lsq_9, lsl_9, lsq_10, lsl_10, lsq_11, lsl_11, lsq_12, lsl_12, lsq_13, lsl_13, lsq_14, lsl_14, tk_0, tk_1, tk_2, tk_3, tk_4, tk_5, tk_6, tk_7, tk_8, cs_n, cs_i, cs_l, cs_r, cs_u, nl, rt_s, rt_n, CST1, Nat.reduceAdd, Nat.reduceLeDiff, va_rf, rtOk, Bool.false_eq_true, Bool.true_eq_false, if_false, if_true, ite_true, ite_false, true_and, and_true, eq_self, ne_eq, not_false_eq_true, not_true_eq_false, false_implies, true_implies, and_self, reduceCtorEq, Nat.reduceBEq, Bool.or_false, Bool.false_or, Bool.or_true, Bool.true_or, if1_0, if1_1, if1_01, one_01, zer_01, lg_cmp_ge, lg_cmp_le, lg_cmp_gt, lg_cmp_lt, lg_cmp_eq, Classical.not_not, SHm hS, SHr hS]
    refine ⟨by omega, c_agN hS (by omega) hI hk4 (fun r f h1 h2 => ?_) (fun i' w' h1 h2 h3 h4 => ?_)⟩
    · have hq : (r = 0) = False := eq_false (by ((try simp only [i_le, i_lt, i_eq, l_le, l_lt, l_eq, i_ne, l_ne, toL, l_add, l_sub1, LIT1, LIT2, Int.reduceNeg, ge_iff_le, gt_iff_lt] at *); omega))
      simp only [D_X11_gone, N_X11_gone, ↓reduceIte, vcS, vcC, vcI, gtF, ptF, inS, inV, fv0, fv1, fv2, fv3, fw0, fw1, lg_0, lg_1, lg_2, lg_3, lg_4, lg_5, lg_6, lg_7, lg_8, lg_9, lg_10, lg_11, lg_12, lg_13, lg_14, lsq_0, lsl_0, lsq_1, lsl_1, lsq_2, lsl_2, lsq_3, lsl_3, lsq_4, lsl_4, lsq_5, lsl_5, lsq_6, lsl_6, lsq_7, lsl_7, lsq_8, lsl_8, lsq_9, lsl_9, lsq_10, lsl_10, lsq_11, lsl_11, lsq_12, lsl_12, lsq_13, lsl_13, lsq_14, lsl_14, tk_0, tk_1, tk_2, tk_3, tk_4, tk_5, tk_6, tk_7, tk_8, cs_n, cs_i, cs_l, cs_r, cs_u, nl, rt_s, rt_n, CST1, Nat.reduceAdd, Nat.reduceLeDiff, va_rf, rtOk, Bool.false_eq_true, Bool.true_eq_false, if_false, if_true, ite_true, ite_false, true_and, and_true, eq_self, ne_eq, not_false_eq_true, not_true_eq_false, false_implies, true_implies, and_self, reduceCtorEq, Nat.reduceBEq, Bool.or_false, Bool.false_or, Bool.or_true, Bool.true_or, if1_0, if1_1, if1_01, one_01, zer_01, lg_cmp_ge, lg_cmp_le, lg_cmp_gt, lg_cmp_lt, lg_cmp_eq, Classical.not_not, SHm hS, SHr hS, ↓im_F hq, ↓im_FN hq, hq]
      exact hk1 r f h1
    · have hk9 := hk2 k i' w' h1 rfl h2 h3 h4
      obtain ⟨-, h5, h6⟩ := id h4
      subst h2 h3
      have tw : (nI w').toInt = w' := nI_toInt (by omega)
      simp only [D_X11_gone, N_X11_gone, ↓reduceIte, vcS, vcC, vcI, gtF, ptF, inS, inV, fv0, fv1, fv2, fv3, fw0, fw1, lg_0, lg_1, lg_2, lg_3, lg_4, lg_5, lg_6, lg_7, lg_8, lg_9, lg_10, lg_11, lg_12, lg_13, lg_14, lsq_0, lsl_0, lsq_1, lsl_1, lsq_2, lsl_2, lsq_3, lsl_3, lsq_4, lsl_4, lsq_5, lsl_5, lsq_6, lsl_6, lsq_7, lsl_7, lsq_8, lsl_8, lsq_9, lsl_9, lsq_10, lsl_10, lsq_11, lsl_11, lsq_12, lsl_12, lsq_13, lsl_13, lsq_14, lsl_14, tk_0, tk_1, tk_2, tk_3, tk_4, tk_5, tk_6, tk_7, tk_8, cs_n, cs_i, cs_l, cs_r, cs_u, nl, rt_s, rt_n, CST1, Nat.reduceAdd, Nat.reduceLeDiff, va_rf, rtOk, Bool.false_eq_true, Bool.true_eq_false, if_false, if_true, ite_true, ite_false, true_and, and_true, eq_self, ne_eq, not_false_eq_true, not_true_eq_false, false_implies, true_implies, and_self, reduceCtorEq, Nat.reduceBEq, Bool.or_false, Bool.false_or, Bool.or_true, Bool.true_or, if1_0, if1_1, if1_01, one_01, zer_01, lg_cmp_ge, lg_cmp_le, lg_cmp_gt, lg_cmp_lt, lg_cmp_eq, Classical.not_not, SHm hS, SHr hS]
      refine ⟨by omega, c_isIn ?_⟩
      simp only [D_X11_gone, N_X11_gone, ↓reduceIte, vcS, vcC, vcI, gtF, ptF, inS, inV, fv0, fv1, fv2, fv3, fw0, fw1, lg_0, lg_1, lg_2, lg_3, lg_4, lg_5, lg_6, lg_7, lg_8, lg_9, lg_10, lg_11, lg_12, lg_13, lg_14, lsq_0, lsl_0, lsq_1, lsl_1, lsq_2, lsl_2, lsq_3, lsl_3, lsq_4, lsl_4, lsq_5, lsl_5, lsq_6, lsl_6, lsq_7, lsl_7, lsq_8, lsl_8, lsq_9, lsl_9, lsq_10, lsl_10, lsq_11, lsl_11, lsq_12, lsl_12, lsq_13, lsl_13, lsq_14, lsl_14, tk_0, tk_1, tk_2, tk_3, tk_4, tk_5, tk_6, tk_7, tk_8, cs_n, cs_i, cs_l, cs_r, cs_u, nl, rt_s, rt_n, CST1, Nat.reduceAdd, Nat.reduceLeDiff, va_rf, rtOk, Bool.false_eq_true, Bool.true_eq_false, if_false, if_true, ite_true, ite_false, true_and, and_true, eq_self, ne_eq, not_false_eq_true, not_true_eq_false, false_implies, true_implies, and_self, reduceCtorEq, Nat.reduceBEq, Bool.or_false, Bool.false_or, Bool.or_true, Bool.true_or, if1_0, if1_1, if1_01, one_01, zer_01, lg_cmp_ge, lg_cmp_le, lg_cmp_gt, lg_cmp_lt, lg_cmp_eq, Classical.not_not, SHm hS, SHr hS, LIT1, (shm hS hk4).1]
      unfold gnR at hk9
      have hx : s2 sg 0 14 0 (41 + 2 * k) = sg (41 + 2 * k) := funext (fun j => s2_n (by omega))
      refine ⟨fun q => ?_, fun q => ⟨by omega, c_areAllIn (by omega) (shm hS hk4).1 (shm hS hk4).2.1 (shm hS hk4).2.2 h5 ?_⟩⟩
      · rw [if_neg (by omega)] at hk9
        exact hk9
      · rw [hx, allB_tk h4]
        simp only [D_X11_gone, N_X11_gone, ↓reduceIte, vcS, vcC, vcI, gtF, ptF, inS, inV, fv0, fv1, fv2, fv3, fw0, fw1, lg_0, lg_1, lg_2, lg_3, lg_4, lg_5, lg_6, lg_7, lg_8, lg_9, lg_10, lg_11, lg_12, lg_13, lg_14, lsq_0, lsl_0, lsq_1, lsl_1, lsq_2, lsl_2, lsq_3, lsl_3, lsq_4, lsl_4, lsq_5, lsl_5, lsq_6, lsl_6, lsq_7, lsl_7, lsq_8, lsl_8, lsq_9, lsl_9, lsq_10, lsl_10, lsq_11, lsl_11, lsq_12, lsl_12, lsq_13, lsl_13, lsq_14, lsl_14, tk_0, tk_1, tk_2, tk_3, tk_4, tk_5, tk_6, tk_7, tk_8, cs_n, cs_i, cs_l, cs_r, cs_u, nl, rt_s, rt_n, CST1, Nat.reduceAdd, Nat.reduceLeDiff, va_rf, rtOk, Bool.false_eq_true, Bool.true_eq_false, if_false, if_true, ite_true, ite_false, true_and, and_true, eq_self, ne_eq, not_false_eq_true, not_true_eq_false, false_implies, true_implies, and_self, reduceCtorEq, Nat.reduceBEq, Bool.or_false, Bool.false_or, Bool.or_true, Bool.true_or, if1_0, if1_1, if1_01, one_01, zer_01, lg_cmp_ge, lg_cmp_le, lg_cmp_gt, lg_cmp_lt, lg_cmp_eq, Classical.not_not, SHm hS, SHr hS, LIT1, (shm hS hk4).1]
        refine ⟨fun q2 => ⟨by omega, ?_⟩, fun q2 => ?_⟩
        · rw [if_pos ⟨by omega, q2⟩] at hk9
          have ha := allB_at w' _ q2
          refine c_goneAlong (N := N) (cb := cb) (L := L) (g := fun j => (sg 87 (60 * k + i' + j)).toNatClampNeg) hS (by omega) hT hX hk4 (fun j hj => ?_) h5 ?_
          · obtain ⟨a1, a2⟩ := ha j hj
            have a3 := i_cl a1
            rw [hx, h6 j hj, ← Nat.add_assoc]
            exact ⟨i_eq.mpr (by rw [nI_toInt (by omega)]; omega), by omega⟩
          · simp only [D_X11_gone, N_X11_gone, ↓reduceIte, vcS, vcC, vcI, gtF, ptF, inS, inV, fv0, fv1, fv2, fv3, fw0, fw1, lg_0, lg_1, lg_2, lg_3, lg_4, lg_5, lg_6, lg_7, lg_8, lg_9, lg_10, lg_11, lg_12, lg_13, lg_14, lsq_0, lsl_0, lsq_1, lsl_1, lsq_2, lsl_2, lsq_3, lsl_3, lsq_4, lsl_4, lsq_5, lsl_5, lsq_6, lsl_6, lsq_7, lsl_7, lsq_8, lsl_8, lsq_9, lsl_9, lsq_10, lsl_10, lsq_11, lsl_11, lsq_12, lsl_12, lsq_13, lsl_13, lsq_14, lsl_14, tk_0, tk_1, tk_2, tk_3, tk_4, tk_5, tk_6, tk_7, tk_8, cs_n, cs_i, cs_l, cs_r, cs_u, nl, rt_s, rt_n, CST1, Nat.reduceAdd, Nat.reduceLeDiff, va_rf, rtOk, Bool.false_eq_true, Bool.true_eq_false, if_false, if_true, ite_true, ite_false, true_and, and_true, eq_self, ne_eq, not_false_eq_true, not_true_eq_false, false_implies, true_implies, and_self, reduceCtorEq, Nat.reduceBEq, Bool.or_false, Bool.false_or, Bool.or_true, Bool.true_or, if1_0, if1_1, if1_01, one_01, zer_01, lg_cmp_ge, lg_cmp_le, lg_cmp_gt, lg_cmp_lt, lg_cmp_eq, Classical.not_not, SHm hS, SHr hS]
            rw [← hb] at hk9
            exact hk9
        · rw [if_neg (fun z => q2 z.2)] at hk9
          exact hk9
  · refine ⟨by omega, c_sheetX hS (by omega) hok ?_⟩
    simp only [D_X11_gone, N_X11_gone, ↓reduceIte, vcS, vcC, vcI, gtF, ptF, inS, inV, fv0, fv1, fv2, fv3, fw0, fw1, lg_0, lg_1, lg_2, lg_3, lg_4, lg_5, lg_6, lg_7, lg_8, lg_9, lg_10, lg_11, lg_12, lg_13, lg_14, lsq_0, lsl_0, lsq_1, lsl_1, lsq_2, lsl_2, lsq_3, lsl_3, lsq_4, lsl_4, lsq_5, lsl_5, lsq_6, lsl_6, lsq_7, lsl_7, lsq_8, lsl_8, lsq_9, lsl_9, lsq_10, lsl_10, lsq_11, lsl_11, lsq_12, lsl_12, lsq_13, lsl_13, lsq_14, lsl_14, tk_0, tk_1, tk_2, tk_3, tk_4, tk_5, tk_6, tk_7, tk_8, cs_n, cs_i, cs_l, cs_r, cs_u, nl, rt_s, rt_n, CST1, Nat.reduceAdd, Nat.reduceLeDiff, va_rf, rtOk, Bool.false_eq_true, Bool.true_eq_false, if_false, if_true, ite_true, ite_false, true_and, and_true, eq_self, ne_eq, not_false_eq_true, not_true_eq_false, false_implies, true_implies, and_self, reduceCtorEq, Nat.reduceBEq, Bool.or_false, Bool.false_or, Bool.or_true, Bool.true_or, if1_0, if1_1, if1_01, one_01, zer_01, lg_cmp_ge, lg_cmp_le, lg_cmp_gt, lg_cmp_lt, lg_cmp_eq, Classical.not_not, SHm hS, SHr hS]
    refine ⟨by omega, c_agX ?_⟩
    simp only [D_X11_gone, N_X11_gone, ↓reduceIte, vcS, vcC, vcI, gtF, ptF, inS, inV, fv0, fv1, fv2, fv3, fw0, fw1, lg_0, lg_1, lg_2, lg_3, lg_4, lg_5, lg_6, lg_7, lg_8, lg_9, lg_10, lg_11, lg_12, lg_13, lg_14, lsq_0, lsl_0, lsq_1, lsl_1, lsq_2, lsl_2, lsq_3, lsl_3, lsq_4, lsl_4, lsq_5, lsl_5, lsq_6, lsl_6, lsq_7, lsl_7, lsq_8, lsl_8, lsq_9, lsl_9, lsq_10, lsl_10, lsq_11, lsl_11, lsq_12, lsl_12, lsq_13, lsl_13, lsq_14, lsl_14, tk_0, tk_1, tk_2, tk_3, tk_4, tk_5, tk_6, tk_7, tk_8, cs_n, cs_i, cs_l, cs_r, cs_u, nl, rt_s, rt_n, CST1, Nat.reduceAdd, Nat.reduceLeDiff, va_rf, rtOk, Bool.false_eq_true, Bool.true_eq_false, if_false, if_true, ite_true, ite_false, true_and, and_true, eq_self, ne_eq, not_false_eq_true, not_true_eq_false, false_implies, true_implies, and_self, reduceCtorEq, Nat.reduceBEq, Bool.or_false, Bool.false_or, Bool.or_true, Bool.true_or, if1_0, if1_1, if1_01, one_01, zer_01, lg_cmp_ge, lg_cmp_le, lg_cmp_gt, lg_cmp_lt, lg_cmp_eq, Classical.not_not, SHm hS, SHr hS]
    exact hk1 (-1) 0 (tkV_X hok)
end H33
