/-! part 39: rows, the reference, and on both sides -/
section H39
variable {d n N : Nat} {mu : aM} {ro : aR} {sg : aS} {K : Option Value → aS → Prop}
def lsF (cb : Nat → Nat) (t : Nat) : Nat := if t = 0 then 4 else cb t
def CM (L cb : Nat → Nat) (b : Int32) (k x : Nat) : Prop := RcP L cb b k (x / 5) ∧ x % 5 = lsF cb (x / 5)
noncomputable def CMb (L cb : Nat → Nat) (b : Int32) (k x : Nat) : Bool := @decide (CM L cb b k x) (Classical.propDecidable _)
theorem CMb_t {L cb : Nat → Nat} {b : Int32} {k t : Nat} : CMb L cb b k t = true ↔ CM L cb b k t := @decide_eq_true_iff _ (Classical.propDecidable _)
theorem ls_lt {L cb : Nat → Nat} {b : Int32} {k t : Nat} (hT : Tre L cb N) (h : RcP L cb b k t) : lsF cb t < 5 ∧ (t ≠ 0 → cb t < 4) := by
  by_cases h0 : t = 0
  · exact ⟨by rw [lsF, if_pos h0]; omega, fun z => absurd h0 z⟩
  · obtain ⟨x, x1, x2⟩ := RP_pa h h0
    have := (hT.up x x1 (by rw [x2]; exact h0)).2.2
    rw [x2] at this
    exact ⟨by rw [lsF, if_neg h0]; omega, fun _ => by omega⟩
theorem cm_sum {L cb : Nat → Nat} {b : Int32} {k : Nat} (hT : Tre L cb N) : ∀ t, cntB (CMb L cb b k) (5 * t) = cntB (RPb L cb b k) t
  | 0 => rfl
  | t + 1 => by
    rw [show 5 * (t + 1) = 5 * t + 1 + 1 + 1 + 1 + 1 by omega]
    simp only [cntB]
    rw [cm_sum hT t]
    have key : ∀ r, r < 5 → (CMb L cb b k (5 * t + r) = true ↔ RcP L cb b k t ∧ r = lsF cb t) := by
      intro r hr
      rw [CMb_t, CM, show (5 * t + r) / 5 = t by omega, show (5 * t + r) % 5 = r by omega]
    by_cases h : RcP L cb b k t
    · have h1 := (ls_lt hT h).1
      rw [if_pos (RPb_t.mpr h)]
      have y : ∀ r, r < 5 → (if CMb L cb b k (5 * t + r) = true then 1 else 0) = if r = lsF cb t then 1 else 0 := by
        intro r hr
        by_cases q : r = lsF cb t
        · rw [if_pos q, if_pos ((key r hr).mpr ⟨h, q⟩)]
        · rw [if_neg q, if_neg (fun z => q ((key r hr).mp z).2)]
      have y0 := y 0 (by omega)
      rw [Nat.add_zero] at y0
      rw [y0, y 1 (by omega), y 2 (by omega), y 3 (by omega), y 4 (by omega)]
      repeat' split
      all_goals omega
    · rw [if_neg (fun z => h (RPb_t.mp z))]
      have y : ∀ r, r < 5 → (if CMb L cb b k (5 * t + r) = true then 1 else 0) = 0 := by
        intro r hr
        rw [if_neg (fun z => h ((key r hr).mp z).1)]
      have y0 := y 0 (by omega)
      rw [Nat.add_zero] at y0
      rw [y0, y 1 (by omega), y 2 (by omega), y 3 (by omega), y 4 (by omega)]
theorem cnt_cut {p : Nat → Bool} {M : Nat} : ∀ m, (∀ j, M ≤ j → j < M + m → p j = false) → cntB p (M + m) = cntB p M
  | 0, _ => rfl
  | m + 1, h => by
    rw [show M + (m + 1) = M + m + 1 by omega, cntB, cnt_cut m (fun j h1 h2 => h j h1 (by omega)), if_neg (by rw [h (M + m) (by omega) (by omega)]; decide), Nat.add_zero]
theorem rp_cut {L cb : Nat → Nat} {b : Int32} {k : Nat} (hT : Tre L cb N) : cntB (RPb L cb b k) 16 = cntB (RPb L cb b k) N := by
  have n16 := hT.n16
  have n1 := hT.n1
  have := cnt_cut (p := RPb L cb b k) (M := N) (16 - N) (fun j h1 h2 => by
    rw [← Bool.not_eq_true, RPb_t]
    intro z
    obtain ⟨x, x1, x2⟩ := RP_pa z (by omega)
    have := (hT.up x x1 (by omega)).2.1
    omega)
  rw [show N + (16 - N) = 16 by omega] at this
  exact this
def cmI (L cb : Nat → Nat) (b : Int32) (k : Nat) (f : Nat → Int32) : Prop := ∀ x, x < 80 → (f x = 1 ∧ CM L cb b k x) ∨ (f x = 0 ∧ ¬ CM L cb b k x)
def HT (L cb : Nat → Nat) (b : Int32) (k X y : Nat) : Prop := ∃ z, z < 64 ∧ L z ≠ 0 ∧ y = 5 * L z + z % 4 ∧ RcP L cb b k (z / 4) ∧ okG cb b (z / 4) (z % 4) ∧ 4 * (5 * (z / 4) + lsF cb (z / 4)) + z % 4 < X
def htI (L cb : Nat → Nat) (b : Int32) (k : Nat) (f : Nat → Int32) (X : Nat) : Prop := ∀ y, y < 80 → (f y = 1 ∧ HT L cb b k X y) ∨ (f y = 0 ∧ ¬ HT L cb b k X y)
theorem cm_0 {L cb : Nat → Nat} {b : Int32} {f : Nat → Int32} (h : ∀ x, x < 80 → f x = if x = 4 then 1 else 0) : cmI L cb b 0 f := by
  intro x hx
  have e : CM L cb b 0 x ↔ x = 4 := by
    unfold CM RcP
    constructor
    · rintro ⟨h1, h2⟩
      rw [h1, lsF, if_pos rfl] at h2
      omega
    · intro h1
      subst h1
      exact ⟨rfl, rfl⟩
  rw [e, h x hx]
  by_cases q : x = 4
  · rw [if_pos q]; exact Or.inl ⟨rfl, q⟩
  · rw [if_neg q]; exact Or.inr ⟨rfl, q⟩
theorem ht_0 {L cb : Nat → Nat} {b : Int32} {f : Nat → Int32} {k : Nat} (h : ∀ x, x < 80 → f x = 0) : htI L cb b k f 0 := by
  intro y hy
  exact Or.inr ⟨h y hy, fun ⟨z, _, _, _, _, _, z6⟩ => by omega⟩
theorem ht_no {L cb : Nat → Nat} {b : Int32} {f : Nat → Int32} {k X : Nat} (h : htI L cb b k f X) (hn : ∀ z, z < 64 → L z ≠ 0 → RcP L cb b k (z / 4) → okG cb b (z / 4) (z % 4) → 4 * (5 * (z / 4) + lsF cb (z / 4)) + z % 4 ≠ X) : htI L cb b k f (X + 1) := by
  have e : ∀ y, HT L cb b k (X + 1) y ↔ HT L cb b k X y := by
    intro y
    constructor
    · rintro ⟨z, z1, z2, z3, z4, z5, z6⟩
      have := hn z z1 z2 z4 z5
      exact ⟨z, z1, z2, z3, z4, z5, by omega⟩
    · rintro ⟨z, z1, z2, z3, z4, z5, z6⟩
      exact ⟨z, z1, z2, z3, z4, z5, by omega⟩
  intro y hy
  rw [e]
  exact h y hy
theorem ht_f0 {L cb : Nat → Nat} {b : Int32} {f : Nat → Int32} {k z : Nat} (hT : Tre L cb N) (h : htI L cb b k f (4 * (5 * (z / 4) + lsF cb (z / 4)) + z % 4)) (hz : z < 64) (h0 : L z ≠ 0) : f (5 * L z + z % 4) = 0 := by
  have n16 := hT.n16
  have u := hT.up z hz h0
  rcases h (5 * L z + z % 4) (by omega) with ⟨_, y, y1, y2, y3, _, _, y6⟩ | ⟨q, _⟩
  · have : z = y := hT.inj z y hz y1 h0 (by omega)
    subst this
    omega
  · exact q
theorem ht_yes {L cb : Nat → Nat} {b : Int32} {f g : Nat → Int32} {k z X : Nat} (hT : Tre L cb N) (h : htI L cb b k f X) (hX : X = 4 * (5 * (z / 4) + lsF cb (z / 4)) + z % 4) (hz : z < 64) (h0 : L z ≠ 0) (hr : RcP L cb b k (z / 4)) (ho : okG cb b (z / 4) (z % 4)) (hg : ∀ y, y ≠ 5 * L z + z % 4 → g y = f y) (hg2 : g (5 * L z + z % 4) = 1) : htI L cb b k g (X + 1) := by
  intro y hy
  by_cases hy2 : y = 5 * L z + z % 4
  · rw [hy2, hg2]
    exact Or.inl ⟨rfl, z, hz, h0, rfl, hr, ho, by omega⟩
  · rw [hg y hy2]
    have e : HT L cb b k (X + 1) y ↔ HT L cb b k X y := by
      constructor
      · rintro ⟨u, z1, z2, z3, z4, z5, z6⟩
        refine ⟨u, z1, z2, z3, z4, z5, ?_⟩
        refine Classical.byContradiction (fun q => ?_)
        have l1 := (ls_lt hT z4).1
        have l2 := (ls_lt hT hr).1
        have : u = z := by
          have e1 : u / 4 = z / 4 := by omega
          rw [e1] at q z6
          omega
        subst this
        exact hy2 z3
      · rintro ⟨u, z1, z2, z3, z4, z5, z6⟩
        exact ⟨u, z1, z2, z3, z4, z5, by omega⟩
    rw [e]
    exact h y hy
theorem ht_end {L cb : Nat → Nat} {b : Int32} {f : Nat → Int32} {k : Nat} (hT : Tre L cb N) (h : htI L cb b k f (4 * (5 * N))) : cmI L cb b (k + 1) f := by
  intro y hy
  have e : HT L cb b k (4 * (5 * N)) y ↔ CM L cb b (k + 1) y := by
    unfold CM RcP
    constructor
    · rintro ⟨z, z1, z2, z3, z4, z5, z6⟩
      have u := hT.up z z1 z2
      have e1 : y / 5 = L z := by omega
      have e2 : y % 5 = z % 4 := by omega
      rw [e1, e2, lsF, if_neg z2]
      exact ⟨⟨z2, z, z1, rfl, z4, z5⟩, u.2.2.symm⟩
    · rintro ⟨⟨h0, x, x1, x2, x3, x4⟩, h2⟩
      have u := hT.up x x1 (by rw [x2]; exact h0)
      have l := (ls_lt hT x3).1
      rw [lsF, if_neg h0, ← x2, u.2.2] at h2
      exact ⟨x, x1, by rw [x2]; exact h0, by omega, x3, x4, by omega⟩
  rw [← e]
  exact h y hy
theorem z50 : ((5 : Int32) = 0) = False := eq_false (by decide)
set_option maxHeartbeats 4000000 in
set_option maxRecDepth 100000 in
theorem m_rows {x : Int32} {L cb : Nat → Nat} (hS : Sh mu ro) (hd : 3 ≤ d) (hT : Tre L cb N) (hM : M_tp sg L N) (hk1 : ¬ (0 ≤ x.toInt ∧ x.toInt ≤ 20) → K (some (.int (-2))) sg) (hk2 : ∀ w : Nat, w ≤ 20 → x = nI w → ∀ σ, (∀ a k, a ≠ 77 → a ≠ 78 → σ a k = sg a k) → K (some (.int (nI (cntB (RPb L cb (sg 48 39) w) N)))) σ) : aCall d 222 [.ref 48, .int x] n mu ro sg K := by
  have n16 := hT.n16
  have n1 := hT.n1
  obtain ⟨b, hb⟩ : ∃ b, b = sg 48 39 := ⟨_, rfl⟩
  rw [← hb] at hk2
  obtain ⟨x1, x2⟩ := hM
  refine aCall_start (mL := 7) (cc := cX12_rows) (o := 12) (ret := (some .int)) 5 (by decide) (by decide +kernel) rfl rfl rfl rfl (Nat.le_of_ble_eq_true rfl) (fun G hC hG => ?_)
  simp only [exL, List.cons_append, List.nil_append, rp_0, rp_1, rp_2, rp_3, rp_4, rp_5, rp_6, rp_7, rp_8, rp_9, rp_10, rp_11, List.append_nil]
  refine hG (fun q => q == 17 || q == 47 || q == 54 || q == 75 || q == 88 || q == 189 || q == 223) 80 _ _ _ _ (Nat.le_of_ble_eq_true rfl) ?_
  simp only [D_X12_rows, N_X12_rows, ↓reduceIte, vcS, vcC, vcI, gtF, ptF, inS, inV, fv0, fv1, fv2, fv3, fw0, fw1, lg_0, lg_1, lg_2, lg_3, lg_4, lg_5, lg_6, lg_7, lg_8, lg_9, lg_10, lg_11, lg_12, lg_13, lg_14, lsq_0, lsl_0, lsq_1, lsl_1, lsq_2, lsl_2, lsq_3, lsl_3, lsq_4, lsl_4, lsq_5, lsl_5, lsq_6, lsl_6, lsq_7, lsl_7, lsq_8, lsl_8, lsq_9, lsl_9, lsq_10, lsl_10, lsq_11, lsl_11, lsq_12, lsl_12, lsq_13, lsl_13, lsq_14, lsl_14, tk_0, tk_1, tk_2, tk_3, tk_4, tk_5, tk_6, tk_7, tk_8, cs_n, cs_i, cs_l, cs_r, cs_u, nl, rt_s, rt_n, CST1, Nat.reduceAdd, Nat.reduceLeDiff, va_rf, rtOk, Bool.false_eq_true, Bool.true_eq_false, if_false, if_true, ite_true, ite_false, true_and, and_true, eq_self, ne_eq, not_false_eq_true, not_true_eq_false, false_implies, true_implies, and_self, reduceCtorEq, Nat.reduceBEq, Bool.or_false, Bool.false_or, Bool.or_true, Bool.true_or, if1_0, if1_1, if1_01, one_01, zer_01, lg_cmp_ge, lg_cmp_le, lg_cmp_gt, lg_cmp_lt, lg_cmp_eq, Classical.not_not, SHm hS, SHr hS]
  refine ⟨by omega, m_in ?_⟩
  simp only [D_X12_rows, N_X12_rows, ↓reduceIte, vcS, vcC, vcI, gtF, ptF, inS, inV, fv0, fv1, fv2, fv3, fw0, fw1, lg_0, lg_1, lg_2, lg_3, lg_4, lg_5, lg_6, lg_7, lg_8, lg_9, lg_10, lg_11, lg_12, lg_13, lg_14, lsq_0, lsl_0, lsq_1, lsl_1, lsq_2, lsl_2, lsq_3, lsl_3, lsq_4, lsl_4, lsq_5, lsl_5, lsq_6, lsl_6, lsq_7, lsl_7, lsq_8, lsl_8, lsq_9, lsl_9, lsq_10, lsl_10, lsq_11, lsl_11, lsq_12, lsl_12, lsq_13, lsl_13, lsq_14, lsl_14, tk_0, tk_1, tk_2, tk_3, tk_4, tk_5, tk_6, tk_7, tk_8, cs_n, cs_i, cs_l, cs_r, cs_u, nl, rt_s, rt_n, CST1, Nat.reduceAdd, Nat.reduceLeDiff, va_rf, rtOk, Bool.false_eq_true, Bool.true_eq_false, if_false, if_true, ite_true, ite_false, true_and, and_true, eq_self, ne_eq, not_false_eq_true, not_true_eq_false, false_implies, true_implies, and_self, reduceCtorEq, Nat.reduceBEq, Bool.or_false, Bool.false_or, Bool.or_true, Bool.true_or, if1_0, if1_1, if1_01, one_01, zer_01, lg_cmp_ge, lg_cmp_le, lg_cmp_gt, lg_cmp_lt, lg_cmp_eq, Classical.not_not, SHm hS, SHr hS, LIT2, toL]
  refine ⟨fun q => ?_, fun q => hk1 q⟩
  obtain ⟨w, hw, rfl⟩ := i_of (x := x) (N := 20) q.1 q.2 (by decide)
  have hk := hk2 w hw rfl
  -- the sum
  have loF : ∀ (m i : Nat) (σ : aS) (v4 v5 v6 : Value), i + m = 80 → (∀ a k, a ≠ 77 → a ≠ 78 → σ a k = sg a k) → cmI L cb b w (σ 77) → AW G 7 n 0 0 mu ro σ 223 [.ref 48, .int (nI w), .int (nI (cntB (CMb L cb b w) i)), .int (nI i), v4, v5, v6] [] := by
    intro m
    induction m with
    | zero =>
      intro i σ v4 v5 v6 hi hF hD
      have i80 : i = 5 * 16 := by omega
      have hc : (80 ≤ nI i) = True := eq_true (by have := nI_toInt (n := i) (by omega); ((try simp only [i_le, i_lt, i_eq, l_le, l_lt, l_eq, i_ne, l_ne, toL, l_add, l_sub1, LIT1, LIT2, Int.reduceNeg, ge_iff_le, gt_iff_lt] at *); omega))
      refine hG (fun q => q == 17 || q == 47 || q == 54 || q == 75 || q == 88 || q == 189 || q == 223) 80 _ _ _ _ (Nat.le_of_ble_eq_true rfl) ?_
      simp only [D_X12_rows, N_X12_rows, ↓reduceIte, vcS, vcC, vcI, gtF, ptF, inS, inV, fv0, fv1, fv2, fv3, fw0, fw1, lg_0, lg_1, lg_2, lg_3, lg_4, lg_5, lg_6, lg_7, lg_8, lg_9, lg_10, lg_11, lg_12, lg_13, lg_14, lsq_0, lsl_0, lsq_1, lsl_1, lsq_2, lsl_2, lsq_3, lsl_3, lsq_4, lsl_4, lsq_5, lsl_5, lsq_6, lsl_6, lsq_7, lsl_7, lsq_8, lsl_8, lsq_9, lsl_9, lsq_10, lsl_10, lsq_11, lsl_11, lsq_12, lsl_12, lsq_13, lsl_13, lsq_14, lsl_14, tk_0, tk_1, tk_2, tk_3, tk_4, tk_5, tk_6, tk_7, tk_8, cs_n, cs_i, cs_l, cs_r, cs_u, nl, rt_s, rt_n, CST1, Nat.reduceAdd, Nat.reduceLeDiff, va_rf, rtOk, Bool.false_eq_true, Bool.true_eq_false, if_false, if_true, ite_true, ite_false, true_and, and_true, eq_self, ne_eq, not_false_eq_true, not_true_eq_false, false_implies, true_implies, and_self, reduceCtorEq, Nat.reduceBEq, Bool.or_false, Bool.false_or, Bool.or_true, Bool.true_or, if1_0, if1_1, if1_01, one_01, zer_01, lg_cmp_ge, lg_cmp_le, lg_cmp_gt, lg_cmp_lt, lg_cmp_eq, Classical.not_not, ↓im_T hc, ↓im_TN hc, hc]
      rw [i80, cm_sum hT 16, rp_cut hT]
      exact hk σ hF
    | succ m ih =>
      intro i σ v4 v5 v6 hi hF hD
      have hc : (80 ≤ nI i) = False := eq_false (by have := nI_toInt (n := i) (by omega); ((try simp only [i_le, i_lt, i_eq, l_le, l_lt, l_eq, i_ne, l_ne, toL, l_add, l_sub1, LIT1, LIT2, Int.reduceNeg, ge_iff_le, gt_iff_lt] at *); omega))
      have ei : (nI i).toNatClampNeg = i := nI_clamp (by omega)
      have vi : vp_in (nI i) 80 := vp_in_nI (by omega) (by decide)
      have h0 := ih (i + 1) σ v4 v5 v6 (by omega) hF hD
      rw [cntB] at h0
      rcases hD i (by omega) with ⟨q1, q2⟩ | ⟨q1, q2⟩
      · rw [if_pos (CMb_t.mpr q2)] at h0
        refine hG (fun q => q == 17 || q == 47 || q == 54 || q == 75 || q == 88 || q == 189 || q == 223) 80 _ _ _ _ (Nat.le_of_ble_eq_true rfl) ?_
        simp only [D_X12_rows, N_X12_rows, ↓reduceIte, vcS, vcC, vcI, gtF, ptF, inS, inV, fv0, fv1, fv2, fv3, fw0, fw1, lg_0, lg_1, lg_2, lg_3, lg_4, lg_5, lg_6, lg_7, lg_8, lg_9, lg_10, lg_11, lg_12, lg_13, lg_14, lsq_0, lsl_0, lsq_1, lsl_1, lsq_2, lsl_2, lsq_3, lsl_3, lsq_4, lsl_4, lsq_5, lsl_5, lsq_6, lsl_6, lsq_7, lsl_7, lsq_8, lsl_8, lsq_9, lsl_9, lsq_10, lsl_10, lsq_11, lsl_11, lsq_12, lsl_12, lsq_13, lsl_13, lsq_14, lsl_14, tk_0, tk_1, tk_2, tk_3, tk_4, tk_5, tk_6, tk_7, tk_8, cs_n, cs_i, cs_l, cs_r, cs_u, nl, rt_s, rt_n, CST1, Nat.reduceAdd, Nat.reduceLeDiff, va_rf, rtOk, Bool.false_eq_true, Bool.true_eq_false, if_false, if_true, ite_true, ite_false, true_and, and_true, eq_self, ne_eq, not_false_eq_true, not_true_eq_false, false_implies, true_implies, and_self, reduceCtorEq, Nat.reduceBEq, Bool.or_false, Bool.false_or, Bool.or_true, Bool.true_or, if1_0, if1_1, if1_01, one_01, zer_01, lg_cmp_ge, lg_cmp_le, lg_cmp_gt, lg_cmp_lt, lg_cmp_eq, Classical.not_not, ↓im_F hc, ↓im_FN hc, hc, SHm hS, SHr hS, ei, vi, q1, nI_1]
        exact h0
      · rw [if_neg (fun z => q2 (CMb_t.mp z)), Nat.add_zero] at h0
        refine hG (fun q => q == 17 || q == 47 || q == 54 || q == 75 || q == 88 || q == 189 || q == 223) 80 _ _ _ _ (Nat.le_of_ble_eq_true rfl) ?_
        simp only [D_X12_rows, N_X12_rows, ↓reduceIte, vcS, vcC, vcI, gtF, ptF, inS, inV, fv0, fv1, fv2, fv3, fw0, fw1, lg_0, lg_1, lg_2, lg_3, lg_4, lg_5, lg_6, lg_7, lg_8, lg_9, lg_10, lg_11, lg_12, lg_13, lg_14, lsq_0, lsl_0, lsq_1, lsl_1, lsq_2, lsl_2, lsq_3, lsl_3, lsq_4, lsl_4, lsq_5, lsl_5, lsq_6, lsl_6, lsq_7, lsl_7, lsq_8, lsl_8, lsq_9, lsl_9, lsq_10, lsl_10, lsq_11, lsl_11, lsq_12, lsl_12, lsq_13, lsl_13, lsq_14, lsl_14, tk_0, tk_1, tk_2, tk_3, tk_4, tk_5, tk_6, tk_7, tk_8, cs_n, cs_i, cs_l, cs_r, cs_u, nl, rt_s, rt_n, CST1, Nat.reduceAdd, Nat.reduceLeDiff, va_rf, rtOk, Bool.false_eq_true, Bool.true_eq_false, if_false, if_true, ite_true, ite_false, true_and, and_true, eq_self, ne_eq, not_false_eq_true, not_true_eq_false, false_implies, true_implies, and_self, reduceCtorEq, Nat.reduceBEq, Bool.or_false, Bool.false_or, Bool.or_true, Bool.true_or, if1_0, if1_1, if1_01, one_01, zer_01, lg_cmp_ge, lg_cmp_le, lg_cmp_gt, lg_cmp_lt, lg_cmp_eq, Classical.not_not, ↓im_F hc, ↓im_FN hc, hc, SHm hS, SHr hS, ei, vi, q1, nI_1, z0a]
        exact h0
  -- a round
  have loK : ∀ (m k : Nat) (σ : aS) (v3 v4 v5 v6 : Value), k + m = w → (∀ a k, a ≠ 77 → a ≠ 78 → σ a k = sg a k) → cmI L cb b k (σ 77) → AW G 7 n 0 0 mu ro σ 47 [.ref 48, .int (nI w), .int (nI k), v3, v4, v5, v6] [] := by
    intro m
    induction m with
    | zero =>
      intro k σ v3 v4 v5 v6 hkw hF hD
      have hc : (nI w ≤ nI k) = True := eq_true (nI_le (by omega) (by omega))
      have : k = w := by omega
      subst this
      refine hG (fun q => q == 17 || q == 47 || q == 54 || q == 75 || q == 88 || q == 189 || q == 223) 80 _ _ _ _ (Nat.le_of_ble_eq_true rfl) ?_
      simp only [D_X12_rows, N_X12_rows, ↓reduceIte, vcS, vcC, vcI, gtF, ptF, inS, inV, fv0, fv1, fv2, fv3, fw0, fw1, lg_0, lg_1, lg_2, lg_3, lg_4, lg_5, lg_6, lg_7, lg_8, lg_9, lg_10, lg_11, lg_12, lg_13, lg_14, lsq_0, lsl_0, lsq_1, lsl_1, lsq_2, lsl_2, lsq_3, lsl_3, lsq_4, lsl_4, lsq_5, lsl_5, lsq_6, lsl_6, lsq_7, lsl_7, lsq_8, lsl_8, lsq_9, lsl_9, lsq_10, lsl_10, lsq_11, lsl_11, lsq_12, lsl_12, lsq_13, lsl_13, lsq_14, lsl_14, tk_0, tk_1, tk_2, tk_3, tk_4, tk_5, tk_6, tk_7, tk_8, cs_n, cs_i, cs_l, cs_r, cs_u, nl, rt_s, rt_n, CST1, Nat.reduceAdd, Nat.reduceLeDiff, va_rf, rtOk, Bool.false_eq_true, Bool.true_eq_false, if_false, if_true, ite_true, ite_false, true_and, and_true, eq_self, ne_eq, not_false_eq_true, not_true_eq_false, false_implies, true_implies, and_self, reduceCtorEq, Nat.reduceBEq, Bool.or_false, Bool.false_or, Bool.or_true, Bool.true_or, if1_0, if1_1, if1_01, one_01, zer_01, lg_cmp_ge, lg_cmp_le, lg_cmp_gt, lg_cmp_lt, lg_cmp_eq, Classical.not_not, ↓im_T hc, ↓im_TN hc, hc]
      exact loF 80 0 σ _ _ _ (by omega) hF hD
    | succ m ihk =>
      intro k σ v3 v4 v5 v6 hkw hF hD
      have hc : (nI w ≤ nI k) = False := eq_false (nI_ge (by omega) (by omega))
      -- over: comesThen to comes
      have loE : ∀ (m i : Nat) (σ0 : aS) (v4 v5 v6 : Value), i + m = 80 → (∀ a k, a ≠ 77 → a ≠ 78 → σ0 a k = sg a k) → cmI L cb b (k + 1) (σ0 78) → AW G 7 n 0 0 mu ro (rgS σ0 77 0 i (σ0 78)) 189 [.ref 48, .int (nI w), .int (nI k), .int (nI i), v4, v5, v6] [] := by
        intro m
        induction m with
        | zero =>
          intro i σ0 v4 v5 v6 hi hF hD
          have hc : (80 ≤ nI i) = True := eq_true (by have := nI_toInt (n := i) (by omega); ((try simp only [i_le, i_lt, i_eq, l_le, l_lt, l_eq, i_ne, l_ne, toL, l_add, l_sub1, LIT1, LIT2, Int.reduceNeg, ge_iff_le, gt_iff_lt] at *); omega))
          refine hG (fun q => q == 17 || q == 47 || q == 54 || q == 75 || q == 88 || q == 189 || q == 223) 80 _ _ _ _ (Nat.le_of_ble_eq_true rfl) ?_
          simp only [D_X12_rows, N_X12_rows, ↓reduceIte, vcS, vcC, vcI, gtF, ptF, inS, inV, fv0, fv1, fv2, fv3, fw0, fw1, lg_0, lg_1, lg_2, lg_3, lg_4, lg_5, lg_6, lg_7, lg_8, lg_9, lg_10, lg_11, lg_12, lg_13, lg_14, lsq_0, lsl_0, lsq_1, lsl_1, lsq_2, lsl_2, lsq_3, lsl_3, lsq_4, lsl_4, lsq_5, lsl_5, lsq_6, lsl_6, lsq_7, lsl_7, lsq_8, lsl_8, lsq_9, lsl_9, lsq_10, lsl_10, lsq_11, lsl_11, lsq_12, lsl_12, lsq_13, lsl_13, lsq_14, lsl_14, tk_0, tk_1, tk_2, tk_3, tk_4, tk_5, tk_6, tk_7, tk_8, cs_n, cs_i, cs_l, cs_r, cs_u, nl, rt_s, rt_n, CST1, Nat.reduceAdd, Nat.reduceLeDiff, va_rf, rtOk, Bool.false_eq_true, Bool.true_eq_false, if_false, if_true, ite_true, ite_false, true_and, and_true, eq_self, ne_eq, not_false_eq_true, not_true_eq_false, false_implies, true_implies, and_self, reduceCtorEq, Nat.reduceBEq, Bool.or_false, Bool.false_or, Bool.or_true, Bool.true_or, if1_0, if1_1, if1_01, one_01, zer_01, lg_cmp_ge, lg_cmp_le, lg_cmp_gt, lg_cmp_lt, lg_cmp_eq, Classical.not_not, ↓im_T hc, ↓im_TN hc, hc, nI_1]
          refine ihk (k + 1) _ _ _ _ _ (by omega) (fun a j h1 h2 => by rw [rg_n (by omega)]; exact hF a j h1 h2) (fun y hy => ?_)
          rw [rg_y ⟨rfl, by omega, by omega⟩, Nat.sub_zero]
          exact hD y hy
        | succ m ih =>
          intro i σ0 v4 v5 v6 hi hF hD
          have hc : (80 ≤ nI i) = False := eq_false (by have := nI_toInt (n := i) (by omega); ((try simp only [i_le, i_lt, i_eq, l_le, l_lt, l_eq, i_ne, l_ne, toL, l_add, l_sub1, LIT1, LIT2, Int.reduceNeg, ge_iff_le, gt_iff_lt] at *); omega))
          have ei : (nI i).toNatClampNeg = i := nI_clamp (by omega)
          have vi : vp_in (nI i) 80 := vp_in_nI (by omega) (by decide)
          have h0 := ih (i + 1) σ0 v4 v5 v6 (by omega) hF hD
          rw [← rg_s (j := i) (x := rgS σ0 77 0 i (σ0 78) 78 i) (by omega) (rg_n (by omega))] at h0
          refine hG (fun q => q == 17 || q == 47 || q == 54 || q == 75 || q == 88 || q == 189 || q == 223) 80 _ _ _ _ (Nat.le_of_ble_eq_true rfl) ?_
          simp only [D_X12_rows, N_X12_rows, ↓reduceIte, vcS, vcC, vcI, gtF, ptF, inS, inV, fv0, fv1, fv2, fv3, fw0, fw1, lg_0, lg_1, lg_2, lg_3, lg_4, lg_5, lg_6, lg_7, lg_8, lg_9, lg_10, lg_11, lg_12, lg_13, lg_14, lsq_0, lsl_0, lsq_1, lsl_1, lsq_2, lsl_2, lsq_3, lsl_3, lsq_4, lsl_4, lsq_5, lsl_5, lsq_6, lsl_6, lsq_7, lsl_7, lsq_8, lsl_8, lsq_9, lsl_9, lsq_10, lsl_10, lsq_11, lsl_11, lsq_12, lsl_12, lsq_13, lsl_13, lsq_14, lsl_14, tk_0, tk_1, tk_2, tk_3, tk_4, tk_5, tk_6, tk_7, tk_8, cs_n, cs_i, cs_l, cs_r, cs_u, nl, rt_s, rt_n, CST1, Nat.reduceAdd, Nat.reduceLeDiff, va_rf, rtOk, Bool.false_eq_true, Bool.true_eq_false, if_false, if_true, ite_true, ite_false, true_and, and_true, eq_self, ne_eq, not_false_eq_true, not_true_eq_false, false_implies, true_implies, and_self, reduceCtorEq, Nat.reduceBEq, Bool.or_false, Bool.false_or, Bool.or_true, Bool.true_or, if1_0, if1_1, if1_01, one_01, zer_01, lg_cmp_ge, lg_cmp_le, lg_cmp_gt, lg_cmp_lt, lg_cmp_eq, Classical.not_not, ↓im_F hc, ↓im_FN hc, hc, SHm hS, SHr hS, ei, vi, nI_1]
          exact h0
      -- the states with their signs
      have loC : ∀ (m x : Nat) (σ0 : aS) (v4 v5 v6 : Value), x + m = 5 * N → (∀ a k, a ≠ 77 → a ≠ 78 → σ0 a k = sg a k) → cmI L cb b k (σ0 77) → htI L cb b k (σ0 78) (4 * x) → AW G 7 n 0 0 mu ro σ0 75 [.ref 48, .int (nI w), .int (nI k), .int (nI x), v4, v5, v6] [] := by
        intro m
        induction m with
        | zero =>
          intro x σ0 v4 v5 v6 hx hF hD hH
          have hN : σ0 48 36 = nI N := by rw [hF 48 36 (by decide) (by decide)]; exact x1
          have hc : (nI (5 * N) ≤ nI x) = True := eq_true (nI_le (by omega) (by omega))
          refine hG (fun q => q == 17 || q == 47 || q == 54 || q == 75 || q == 88 || q == 189 || q == 223) 80 _ _ _ _ (Nat.le_of_ble_eq_true rfl) ?_
          simp only [D_X12_rows, N_X12_rows, ↓reduceIte, vcS, vcC, vcI, gtF, ptF, inS, inV, fv0, fv1, fv2, fv3, fw0, fw1, lg_0, lg_1, lg_2, lg_3, lg_4, lg_5, lg_6, lg_7, lg_8, lg_9, lg_10, lg_11, lg_12, lg_13, lg_14, lsq_0, lsl_0, lsq_1, lsl_1, lsq_2, lsl_2, lsq_3, lsl_3, lsq_4, lsl_4, lsq_5, lsl_5, lsq_6, lsl_6, lsq_7, lsl_7, lsq_8, lsl_8, lsq_9, lsl_9, lsq_10, lsl_10, lsq_11, lsl_11, lsq_12, lsl_12, lsq_13, lsl_13, lsq_14, lsl_14, tk_0, tk_1, tk_2, tk_3, tk_4, tk_5, tk_6, tk_7, tk_8, cs_n, cs_i, cs_l, cs_r, cs_u, nl, rt_s, rt_n, CST1, Nat.reduceAdd, Nat.reduceLeDiff, va_rf, rtOk, Bool.false_eq_true, Bool.true_eq_false, if_false, if_true, ite_true, ite_false, true_and, and_true, eq_self, ne_eq, not_false_eq_true, not_true_eq_false, false_implies, true_implies, and_self, reduceCtorEq, Nat.reduceBEq, Bool.or_false, Bool.false_or, Bool.or_true, Bool.true_or, if1_0, if1_1, if1_01, one_01, zer_01, lg_cmp_ge, lg_cmp_le, lg_cmp_gt, lg_cmp_lt, lg_cmp_eq, Classical.not_not, SHm hS, SHr hS, hN, ml5, ↓im_T hc, ↓im_TN hc, hc]
          have := loE 80 0 σ0 v4 v5 v6 (by omega) hF (ht_end hT (by rw [← show x = 5 * N by omega]; exact hH))
          rw [rg_0] at this
          exact this
        | succ m ihx =>
          intro x σ0 v4 v5 v6 hx hF hD hH
          have hN : σ0 48 36 = nI N := by rw [hF 48 36 (by decide) (by decide)]; exact x1
          have hc : (nI (5 * N) ≤ nI x) = False := eq_false (nI_ge (by omega) (by omega))
          have ex : (nI x).toNatClampNeg = x := nI_clamp (by omega)
          have vx : vp_in (nI x) 80 := vp_in_nI (by omega) (by decide)
          rcases hD x (by omega) with ⟨q1, q2, q3⟩ | ⟨q1, q2⟩
          · obtain ⟨s, hs⟩ : ∃ s, s = x / 5 := ⟨_, rfl⟩
            rw [← hs] at q2 q3
            obtain ⟨l1, l2⟩ := ls_lt hT q2
            have hs2 : x = 5 * s + lsF cb s := by omega
            have hdv : nI x / 5 = nI s := by rw [hs]; exact pk_div (d := 5) (by omega) (by omega) (by omega)
            have hrm : nI x - nI s * 5 = nI (lsF cb s) := by
              have := pk_rem (a := x) (d := 5) (by omega) (by omega) (by omega)
              rw [show nI 5 = 5 from rfl, hdv] at this
              rw [this, q3]
            have loD : ∀ (m c : Nat) (σ1 : aS) (v5 v6 : Value), c + m = 4 → (∀ a k, a ≠ 77 → a ≠ 78 → σ1 a k = sg a k) → cmI L cb b k (σ1 77) → htI L cb b k (σ1 78) (4 * x + c) → AW G 7 n 0 0 mu ro σ1 88 [.ref 48, .int (nI w), .int (nI k), .int (nI x), .int (nI c), v5, v6] [] := by
              intro m
              induction m with
              | zero =>
                intro c σ1 v5 v6 hc4 hF hD hH
                have hc : (4 ≤ nI c) = True := eq_true (by have := nI_toInt (n := c) (by omega); ((try simp only [i_le, i_lt, i_eq, l_le, l_lt, l_eq, i_ne, l_ne, toL, l_add, l_sub1, LIT1, LIT2, Int.reduceNeg, ge_iff_le, gt_iff_lt] at *); omega))
                refine hG (fun q => q == 17 || q == 47 || q == 54 || q == 75 || q == 88 || q == 189 || q == 223) 80 _ _ _ _ (Nat.le_of_ble_eq_true rfl) ?_
                simp only [D_X12_rows, N_X12_rows, ↓reduceIte, vcS, vcC, vcI, gtF, ptF, inS, inV, fv0, fv1, fv2, fv3, fw0, fw1, lg_0, lg_1, lg_2, lg_3, lg_4, lg_5, lg_6, lg_7, lg_8, lg_9, lg_10, lg_11, lg_12, lg_13, lg_14, lsq_0, lsl_0, lsq_1, lsl_1, lsq_2, lsl_2, lsq_3, lsl_3, lsq_4, lsl_4, lsq_5, lsl_5, lsq_6, lsl_6, lsq_7, lsl_7, lsq_8, lsl_8, lsq_9, lsl_9, lsq_10, lsl_10, lsq_11, lsl_11, lsq_12, lsl_12, lsq_13, lsl_13, lsq_14, lsl_14, tk_0, tk_1, tk_2, tk_3, tk_4, tk_5, tk_6, tk_7, tk_8, cs_n, cs_i, cs_l, cs_r, cs_u, nl, rt_s, rt_n, CST1, Nat.reduceAdd, Nat.reduceLeDiff, va_rf, rtOk, Bool.false_eq_true, Bool.true_eq_false, if_false, if_true, ite_true, ite_false, true_and, and_true, eq_self, ne_eq, not_false_eq_true, not_true_eq_false, false_implies, true_implies, and_self, reduceCtorEq, Nat.reduceBEq, Bool.or_false, Bool.false_or, Bool.or_true, Bool.true_or, if1_0, if1_1, if1_01, one_01, zer_01, lg_cmp_ge, lg_cmp_le, lg_cmp_gt, lg_cmp_lt, lg_cmp_eq, Classical.not_not, ↓im_T hc, ↓im_TN hc, hc, nI_1]
                exact ihx (x + 1) σ1 _ _ _ (by omega) hF hD (by rw [show 4 * (x + 1) = 4 * x + c by omega]; exact hH)
              | succ m ih =>
                intro c σ1 v5 v6 hc4 hF hD hH
                have hc : (4 ≤ nI c) = False := eq_false (by have := nI_toInt (n := c) (by omega); ((try simp only [i_le, i_lt, i_eq, l_le, l_lt, l_eq, i_ne, l_ne, toL, l_add, l_sub1, LIT1, LIT2, Int.reduceNeg, ge_iff_le, gt_iff_lt] at *); omega))
                have q1' : σ1 77 x = 1 := by
                  rcases hD x (by omega) with ⟨p1, _⟩ | ⟨_, p2⟩
                  · exact p1
                  · exact absurd ⟨by rw [← hs]; exact q2, by rw [← hs]; exact q3⟩ p2
                have z1 : ((1 : Int32) ≤ 0) = False := eq_false (by decide)
                have y1 : (4 * s + c) / 4 = s := by omega
                have y2 : (4 * s + c) % 4 = c := by omega
                have hl : σ1 75 (4 * s + c) = if L (4 * s + c) = 0 then -9 else nI (L (4 * s + c)) := by rw [hF 75 _ (by decide) (by decide)]; exact x2 _ (by omega)
                have hlt := hT.lt (4 * s + c) (by omega)
                have hbb : σ1 48 39 = b := by rw [hF 48 39 (by decide) (by decide), hb]
                have es : (nI (4 * s + c)).toNatClampNeg = 4 * s + c := nI_clamp (by omega)
                have vs : vp_in (nI (4 * s + c)) 64 := vp_in_nI (by omega) (by decide)
                have xX : 4 * x + c = 4 * (5 * ((4 * s + c) / 4) + lsF cb ((4 * s + c) / 4)) + (4 * s + c) % 4 := by rw [y1, y2, hs2]
                have no : ¬ (L (4 * s + c) ≠ 0 ∧ okG cb b s c) → ∀ v5 v6, AW G 7 n 0 0 mu ro σ1 88 [.ref 48, .int (nI w), .int (nI k), .int (nI x), .int (nI (c + 1)), v5, v6] [] := by
                  intro hn v5 v6
                  refine ih (c + 1) σ1 v5 v6 (by omega) hF hD (ht_no (X := 4 * x + c) hH (fun z z1 z2 z3 z4 z5 => hn ?_))
                  have l3 := (ls_lt hT z3).1
                  have : z = 4 * s + c := by
                    have e1 : z / 4 = s := by omega
                    rw [e1] at z5
                    omega
                  rw [← this]
                  rw [this, y1, y2] at z4
                  exact ⟨z2, z4⟩
                by_cases h0 : L (4 * s + c) = 0
                · rw [if_pos h0] at hl
                  have z9 : ((-9 : Int32) < 0) = True := eq_true (by decide)
                  refine hG (fun q => q == 17 || q == 47 || q == 54 || q == 75 || q == 88 || q == 189 || q == 223) 80 _ _ _ _ (Nat.le_of_ble_eq_true rfl) ?_
                  simp only [D_X12_rows, N_X12_rows, ↓reduceIte, vcS, vcC, vcI, gtF, ptF, inS, inV, fv0, fv1, fv2, fv3, fw0, fw1, lg_0, lg_1, lg_2, lg_3, lg_4, lg_5, lg_6, lg_7, lg_8, lg_9, lg_10, lg_11, lg_12, lg_13, lg_14, lsq_0, lsl_0, lsq_1, lsl_1, lsq_2, lsl_2, lsq_3, lsl_3, lsq_4, lsl_4, lsq_5, lsl_5, lsq_6, lsl_6, lsq_7, lsl_7, lsq_8, lsl_8, lsq_9, lsl_9, lsq_10, lsl_10, lsq_11, lsl_11, lsq_12, lsl_12, lsq_13, lsl_13, lsq_14, lsl_14, tk_0, tk_1, tk_2, tk_3, tk_4, tk_5, tk_6, tk_7, tk_8, cs_n, cs_i, cs_l, cs_r, cs_u, nl, rt_s, rt_n, CST1, Nat.reduceAdd, Nat.reduceLeDiff, va_rf, rtOk, Bool.false_eq_true, Bool.true_eq_false, if_false, if_true, ite_true, ite_false, true_and, and_true, eq_self, ne_eq, not_false_eq_true, not_true_eq_false, false_implies, true_implies, and_self, reduceCtorEq, Nat.reduceBEq, Bool.or_false, Bool.false_or, Bool.or_true, Bool.true_or, if1_0, if1_1, if1_01, one_01, zer_01, lg_cmp_ge, lg_cmp_le, lg_cmp_gt, lg_cmp_lt, lg_cmp_eq, Classical.not_not, ↓im_F hc, ↓im_FN hc, hc, SHm hS, SHr hS, ex, vx, q1', z1, z50, hdv, ml4, nI_add, es, vs, hl, z9, nI_1]
                  exact no (fun z => z.1 h0) _ _
                · rw [if_neg h0] at hl
                  have u := hT.up (4 * s + c) (by omega) h0
                  have z9 : (nI (L (4 * s + c)) < 0) = False := nI_lt0 (by omega)
                  have f0 := ht_f0 (L := L) (cb := cb) (b := b) (k := k) (z := 4 * s + c) hT (by rw [← xX]; exact hH) (by omega) h0
                  rw [y2] at f0
                  have et : (nI (5 * L (4 * s + c) + c)).toNatClampNeg = 5 * L (4 * s + c) + c := nI_clamp (by omega)
                  have vt : vp_in (nI (5 * L (4 * s + c) + c)) 80 := vp_in_nI (by omega) (by decide)
                  have z01 : (0 : Int32) + 1 = 1 := by decide
                  have yes : okG cb b s c → ∀ v5 v6, AW G 7 n 0 0 mu ro (s2 σ1 78 (5 * L (4 * s + c) + c) 1) 88 [.ref 48, .int (nI w), .int (nI k), .int (nI x), .int (nI (c + 1)), v5, v6] [] := by
                    intro ho v5 v6
                    refine ih (c + 1) _ v5 v6 (by omega) (fun a j h1 h2 => by rw [s2_n (by omega)]; exact hF a j h1 h2) (fun y hy => by rw [s2_n (by omega)]; exact hD y hy) (ht_yes (X := 4 * x + c) hT hH xX (by omega) h0 (by rw [y1]; exact q2) (by rw [y1, y2]; exact ho) (fun y hy => s2_n (by rw [y2] at hy; omega)) (by rw [y2]; exact s2_y ⟨rfl, rfl⟩))
                  by_cases hs0 : s = 0
                  · have hl4 : (4 ≤ nI (lsF cb s)) = True := eq_true (by rw [lsF, if_pos hs0]; decide)
                    refine hG (fun q => q == 17 || q == 47 || q == 54 || q == 75 || q == 88 || q == 189 || q == 223) 80 _ _ _ _ (Nat.le_of_ble_eq_true rfl) ?_
                    simp only [D_X12_rows, N_X12_rows, ↓reduceIte, vcS, vcC, vcI, gtF, ptF, inS, inV, fv0, fv1, fv2, fv3, fw0, fw1, lg_0, lg_1, lg_2, lg_3, lg_4, lg_5, lg_6, lg_7, lg_8, lg_9, lg_10, lg_11, lg_12, lg_13, lg_14, lsq_0, lsl_0, lsq_1, lsl_1, lsq_2, lsl_2, lsq_3, lsl_3, lsq_4, lsl_4, lsq_5, lsl_5, lsq_6, lsl_6, lsq_7, lsl_7, lsq_8, lsl_8, lsq_9, lsl_9, lsq_10, lsl_10, lsq_11, lsl_11, lsq_12, lsl_12, lsq_13, lsl_13, lsq_14, lsl_14, tk_0, tk_1, tk_2, tk_3, tk_4, tk_5, tk_6, tk_7, tk_8, cs_n, cs_i, cs_l, cs_r, cs_u, nl, rt_s, rt_n, CST1, Nat.reduceAdd, Nat.reduceLeDiff, va_rf, rtOk, Bool.false_eq_true, Bool.true_eq_false, if_false, if_true, ite_true, ite_false, true_and, and_true, eq_self, ne_eq, not_false_eq_true, not_true_eq_false, false_implies, true_implies, and_self, reduceCtorEq, Nat.reduceBEq, Bool.or_false, Bool.false_or, Bool.or_true, Bool.true_or, if1_0, if1_1, if1_01, one_01, zer_01, lg_cmp_ge, lg_cmp_le, lg_cmp_gt, lg_cmp_lt, lg_cmp_eq, Classical.not_not, ↓im_F hc, ↓im_FN hc, hc, SHm hS, SHr hS, ex, vx, q1', z1, z50, hdv, ml4, nI_add, es, vs, hl, z9, nI_1, hrm, hl4, z10, ml5, et, vt, f0, z01]
                    exact yes (Or.inl hs0) _ _
                  · have els : lsF cb s = cb s := by rw [lsF, if_neg hs0]
                    have hl4 : (4 ≤ nI (cb s)) = False := eq_false (by have := nI_toInt (n := cb s) (by have := l2 hs0; omega); have := l2 hs0; ((try simp only [i_le, i_lt, i_eq, l_le, l_lt, l_eq, i_ne, l_ne, toL, l_add, l_sub1, LIT1, LIT2, Int.reduceNeg, ge_iff_le, gt_iff_lt] at *); omega))
                    rw [els] at hrm
                    refine hG (fun q => q == 17 || q == 47 || q == 54 || q == 75 || q == 88 || q == 189 || q == 223) 80 _ _ _ _ (Nat.le_of_ble_eq_true rfl) ?_
                    simp only [D_X12_rows, N_X12_rows, ↓reduceIte, vcS, vcC, vcI, gtF, ptF, inS, inV, fv0, fv1, fv2, fv3, fw0, fw1, lg_0, lg_1, lg_2, lg_3, lg_4, lg_5, lg_6, lg_7, lg_8, lg_9, lg_10, lg_11, lg_12, lg_13, lg_14, lsq_0, lsl_0, lsq_1, lsl_1, lsq_2, lsl_2, lsq_3, lsl_3, lsq_4, lsl_4, lsq_5, lsl_5, lsq_6, lsl_6, lsq_7, lsl_7, lsq_8, lsl_8, lsq_9, lsl_9, lsq_10, lsl_10, lsq_11, lsl_11, lsq_12, lsl_12, lsq_13, lsl_13, lsq_14, lsl_14, tk_0, tk_1, tk_2, tk_3, tk_4, tk_5, tk_6, tk_7, tk_8, cs_n, cs_i, cs_l, cs_r, cs_u, nl, rt_s, rt_n, CST1, Nat.reduceAdd, Nat.reduceLeDiff, va_rf, rtOk, Bool.false_eq_true, Bool.true_eq_false, if_false, if_true, ite_true, ite_false, true_and, and_true, eq_self, ne_eq, not_false_eq_true, not_true_eq_false, false_implies, true_implies, and_self, reduceCtorEq, Nat.reduceBEq, Bool.or_false, Bool.false_or, Bool.or_true, Bool.true_or, if1_0, if1_1, if1_01, one_01, zer_01, lg_cmp_ge, lg_cmp_le, lg_cmp_gt, lg_cmp_lt, lg_cmp_eq, Classical.not_not, ↓im_F hc, ↓im_FN hc, hc, SHm hS, SHr hS, ex, vx, q1', z1, z50, hdv, ml4, nI_add, es, vs, hl, z9, hrm, hl4]
                    refine ⟨by omega, m_isBarN hS (by omega) ?_⟩
                    simp only [D_X12_rows, N_X12_rows, ↓reduceIte, vcS, vcC, vcI, gtF, ptF, inS, inV, fv0, fv1, fv2, fv3, fw0, fw1, lg_0, lg_1, lg_2, lg_3, lg_4, lg_5, lg_6, lg_7, lg_8, lg_9, lg_10, lg_11, lg_12, lg_13, lg_14, lsq_0, lsl_0, lsq_1, lsl_1, lsq_2, lsl_2, lsq_3, lsl_3, lsq_4, lsl_4, lsq_5, lsl_5, lsq_6, lsl_6, lsq_7, lsl_7, lsq_8, lsl_8, lsq_9, lsl_9, lsq_10, lsl_10, lsq_11, lsl_11, lsq_12, lsl_12, lsq_13, lsl_13, lsq_14, lsl_14, tk_0, tk_1, tk_2, tk_3, tk_4, tk_5, tk_6, tk_7, tk_8, cs_n, cs_i, cs_l, cs_r, cs_u, nl, rt_s, rt_n, CST1, Nat.reduceAdd, Nat.reduceLeDiff, va_rf, rtOk, Bool.false_eq_true, Bool.true_eq_false, if_false, if_true, ite_true, ite_false, true_and, and_true, eq_self, ne_eq, not_false_eq_true, not_true_eq_false, false_implies, true_implies, and_self, reduceCtorEq, Nat.reduceBEq, Bool.or_false, Bool.false_or, Bool.or_true, Bool.true_or, if1_0, if1_1, if1_01, one_01, zer_01, lg_cmp_ge, lg_cmp_le, lg_cmp_gt, lg_cmp_lt, lg_cmp_eq, Classical.not_not, SHm hS, SHr hS, ex, vx, q1', nI_add, nI_1, z10, ml5, et, vt, f0, z01, hbb]
                    refine ⟨fun q => ?_, fun q => ?_⟩
                    · refine no (fun z => ?_) _ _
                      rcases z.2 with z | z
                      · exact hs0 z
                      · exact z q
                    · exact yes (Or.inr q) _ _
            refine hG (fun q => q == 17 || q == 47 || q == 54 || q == 75 || q == 88 || q == 189 || q == 223) 80 _ _ _ _ (Nat.le_of_ble_eq_true rfl) ?_
            simp only [D_X12_rows, N_X12_rows, ↓reduceIte, vcS, vcC, vcI, gtF, ptF, inS, inV, fv0, fv1, fv2, fv3, fw0, fw1, lg_0, lg_1, lg_2, lg_3, lg_4, lg_5, lg_6, lg_7, lg_8, lg_9, lg_10, lg_11, lg_12, lg_13, lg_14, lsq_0, lsl_0, lsq_1, lsl_1, lsq_2, lsl_2, lsq_3, lsl_3, lsq_4, lsl_4, lsq_5, lsl_5, lsq_6, lsl_6, lsq_7, lsl_7, lsq_8, lsl_8, lsq_9, lsl_9, lsq_10, lsl_10, lsq_11, lsl_11, lsq_12, lsl_12, lsq_13, lsl_13, lsq_14, lsl_14, tk_0, tk_1, tk_2, tk_3, tk_4, tk_5, tk_6, tk_7, tk_8, cs_n, cs_i, cs_l, cs_r, cs_u, nl, rt_s, rt_n, CST1, Nat.reduceAdd, Nat.reduceLeDiff, va_rf, rtOk, Bool.false_eq_true, Bool.true_eq_false, if_false, if_true, ite_true, ite_false, true_and, and_true, eq_self, ne_eq, not_false_eq_true, not_true_eq_false, false_implies, true_implies, and_self, reduceCtorEq, Nat.reduceBEq, Bool.or_false, Bool.false_or, Bool.or_true, Bool.true_or, if1_0, if1_1, if1_01, one_01, zer_01, lg_cmp_ge, lg_cmp_le, lg_cmp_gt, lg_cmp_lt, lg_cmp_eq, Classical.not_not, SHm hS, SHr hS, hN, ml5, ↓im_F hc, ↓im_FN hc, hc]
            exact loD 4 0 σ0 _ _ (by omega) hF hD hH
          · have nx : ∀ c, c < 4 → htI L cb b k (σ0 78) (4 * x + c) → htI L cb b k (σ0 78) (4 * x + c + 1) := by
              intro c hc4 z
              refine ht_no z (fun z z1 z2 z3 z4 z5 => q2 ?_)
              have l3 := (ls_lt hT z3).1
              have e1 : x / 5 = z / 4 := by omega
              exact ⟨by rw [e1]; exact z3, by rw [e1]; omega⟩
            have h4 := nx 3 (by omega) (nx 2 (by omega) (nx 1 (by omega) (nx 0 (by omega) hH)))
            have hc0 : (4 ≤ (0 : Int32)) = False := eq_false (by decide)
            -- one look at the loop of the signs, which ends at once
            have loD0 : AW G 7 n 0 0 mu ro σ0 88 [.ref 48, .int (nI w), .int (nI k), .int (nI x), .int 0, v5, v6] [] := by
              refine hG (fun q => q == 17 || q == 47 || q == 54 || q == 75 || q == 88 || q == 189 || q == 223) 80 _ _ _ _ (Nat.le_of_ble_eq_true rfl) ?_
              simp only [D_X12_rows, N_X12_rows, ↓reduceIte, vcS, vcC, vcI, gtF, ptF, inS, inV, fv0, fv1, fv2, fv3, fw0, fw1, lg_0, lg_1, lg_2, lg_3, lg_4, lg_5, lg_6, lg_7, lg_8, lg_9, lg_10, lg_11, lg_12, lg_13, lg_14, lsq_0, lsl_0, lsq_1, lsl_1, lsq_2, lsl_2, lsq_3, lsl_3, lsq_4, lsl_4, lsq_5, lsl_5, lsq_6, lsl_6, lsq_7, lsl_7, lsq_8, lsl_8, lsq_9, lsl_9, lsq_10, lsl_10, lsq_11, lsl_11, lsq_12, lsl_12, lsq_13, lsl_13, lsq_14, lsl_14, tk_0, tk_1, tk_2, tk_3, tk_4, tk_5, tk_6, tk_7, tk_8, cs_n, cs_i, cs_l, cs_r, cs_u, nl, rt_s, rt_n, CST1, Nat.reduceAdd, Nat.reduceLeDiff, va_rf, rtOk, Bool.false_eq_true, Bool.true_eq_false, if_false, if_true, ite_true, ite_false, true_and, and_true, eq_self, ne_eq, not_false_eq_true, not_true_eq_false, false_implies, true_implies, and_self, reduceCtorEq, Nat.reduceBEq, Bool.or_false, Bool.false_or, Bool.or_true, Bool.true_or, if1_0, if1_1, if1_01, one_01, zer_01, lg_cmp_ge, lg_cmp_le, lg_cmp_gt, lg_cmp_lt, lg_cmp_eq, Classical.not_not, ↓im_F hc0, ↓im_FN hc0, hc0, SHm hS, SHr hS, ex, vx, q1, z00, nI_1]
              exact ihx (x + 1) σ0 _ _ _ (by omega) hF hD h4
            refine hG (fun q => q == 17 || q == 47 || q == 54 || q == 75 || q == 88 || q == 189 || q == 223) 80 _ _ _ _ (Nat.le_of_ble_eq_true rfl) ?_
            simp only [D_X12_rows, N_X12_rows, ↓reduceIte, vcS, vcC, vcI, gtF, ptF, inS, inV, fv0, fv1, fv2, fv3, fw0, fw1, lg_0, lg_1, lg_2, lg_3, lg_4, lg_5, lg_6, lg_7, lg_8, lg_9, lg_10, lg_11, lg_12, lg_13, lg_14, lsq_0, lsl_0, lsq_1, lsl_1, lsq_2, lsl_2, lsq_3, lsl_3, lsq_4, lsl_4, lsq_5, lsl_5, lsq_6, lsl_6, lsq_7, lsl_7, lsq_8, lsl_8, lsq_9, lsl_9, lsq_10, lsl_10, lsq_11, lsl_11, lsq_12, lsl_12, lsq_13, lsl_13, lsq_14, lsl_14, tk_0, tk_1, tk_2, tk_3, tk_4, tk_5, tk_6, tk_7, tk_8, cs_n, cs_i, cs_l, cs_r, cs_u, nl, rt_s, rt_n, CST1, Nat.reduceAdd, Nat.reduceLeDiff, va_rf, rtOk, Bool.false_eq_true, Bool.true_eq_false, if_false, if_true, ite_true, ite_false, true_and, and_true, eq_self, ne_eq, not_false_eq_true, not_true_eq_false, false_implies, true_implies, and_self, reduceCtorEq, Nat.reduceBEq, Bool.or_false, Bool.false_or, Bool.or_true, Bool.true_or, if1_0, if1_1, if1_01, one_01, zer_01, lg_cmp_ge, lg_cmp_le, lg_cmp_gt, lg_cmp_lt, lg_cmp_eq, Classical.not_not, SHm hS, SHr hS, hN, ml5, ↓im_F hc, ↓im_FN hc, hc]
            exact loD0
      -- comesThen begins with nothing
      have loB : ∀ (m i : Nat) (v4 v5 v6 : Value), i + m = 80 → AW G 7 n 0 0 mu ro (rgS σ 78 0 i (fun _ => 0)) 54 [.ref 48, .int (nI w), .int (nI k), .int (nI i), v4, v5, v6] [] := by
        intro m
        induction m with
        | zero =>
          intro i v4 v5 v6 hi
          have hc : (80 ≤ nI i) = True := eq_true (by have := nI_toInt (n := i) (by omega); ((try simp only [i_le, i_lt, i_eq, l_le, l_lt, l_eq, i_ne, l_ne, toL, l_add, l_sub1, LIT1, LIT2, Int.reduceNeg, ge_iff_le, gt_iff_lt] at *); omega))
          refine hG (fun q => q == 17 || q == 47 || q == 54 || q == 75 || q == 88 || q == 189 || q == 223) 80 _ _ _ _ (Nat.le_of_ble_eq_true rfl) ?_
          simp only [D_X12_rows, N_X12_rows, ↓reduceIte, vcS, vcC, vcI, gtF, ptF, inS, inV, fv0, fv1, fv2, fv3, fw0, fw1, lg_0, lg_1, lg_2, lg_3, lg_4, lg_5, lg_6, lg_7, lg_8, lg_9, lg_10, lg_11, lg_12, lg_13, lg_14, lsq_0, lsl_0, lsq_1, lsl_1, lsq_2, lsl_2, lsq_3, lsl_3, lsq_4, lsl_4, lsq_5, lsl_5, lsq_6, lsl_6, lsq_7, lsl_7, lsq_8, lsl_8, lsq_9, lsl_9, lsq_10, lsl_10, lsq_11, lsl_11, lsq_12, lsl_12, lsq_13, lsl_13, lsq_14, lsl_14, tk_0, tk_1, tk_2, tk_3, tk_4, tk_5, tk_6, tk_7, tk_8, cs_n, cs_i, cs_l, cs_r, cs_u, nl, rt_s, rt_n, CST1, Nat.reduceAdd, Nat.reduceLeDiff, va_rf, rtOk, Bool.false_eq_true, Bool.true_eq_false, if_false, if_true, ite_true, ite_false, true_and, and_true, eq_self, ne_eq, not_false_eq_true, not_true_eq_false, false_implies, true_implies, and_self, reduceCtorEq, Nat.reduceBEq, Bool.or_false, Bool.false_or, Bool.or_true, Bool.true_or, if1_0, if1_1, if1_01, one_01, zer_01, lg_cmp_ge, lg_cmp_le, lg_cmp_gt, lg_cmp_lt, lg_cmp_eq, Classical.not_not, ↓im_T hc, ↓im_TN hc, hc, nI_1]
          refine loC (5 * N) 0 _ _ _ _ (by omega) (fun a j h1 h2 => by rw [rg_n (by omega)]; exact hF a j h1 h2) (fun y hy => by rw [rg_n (by omega)]; exact hD y hy) (ht_0 (fun y hy => ?_))
          rw [rg_y ⟨rfl, by omega, by omega⟩]
        | succ m ih =>
          intro i v4 v5 v6 hi
          have hc : (80 ≤ nI i) = False := eq_false (by have := nI_toInt (n := i) (by omega); ((try simp only [i_le, i_lt, i_eq, l_le, l_lt, l_eq, i_ne, l_ne, toL, l_add, l_sub1, LIT1, LIT2, Int.reduceNeg, ge_iff_le, gt_iff_lt] at *); omega))
          have ei : (nI i).toNatClampNeg = i := nI_clamp (by omega)
          have vi : vp_in (nI i) 80 := vp_in_nI (by omega) (by decide)
          have h0 := ih (i + 1) v4 v5 v6 (by omega)
          rw [← rg_s (j := i) (x := 0) (by omega) rfl] at h0
          refine hG (fun q => q == 17 || q == 47 || q == 54 || q == 75 || q == 88 || q == 189 || q == 223) 80 _ _ _ _ (Nat.le_of_ble_eq_true rfl) ?_
          simp only [D_X12_rows, N_X12_rows, ↓reduceIte, vcS, vcC, vcI, gtF, ptF, inS, inV, fv0, fv1, fv2, fv3, fw0, fw1, lg_0, lg_1, lg_2, lg_3, lg_4, lg_5, lg_6, lg_7, lg_8, lg_9, lg_10, lg_11, lg_12, lg_13, lg_14, lsq_0, lsl_0, lsq_1, lsl_1, lsq_2, lsl_2, lsq_3, lsl_3, lsq_4, lsl_4, lsq_5, lsl_5, lsq_6, lsl_6, lsq_7, lsl_7, lsq_8, lsl_8, lsq_9, lsl_9, lsq_10, lsl_10, lsq_11, lsl_11, lsq_12, lsl_12, lsq_13, lsl_13, lsq_14, lsl_14, tk_0, tk_1, tk_2, tk_3, tk_4, tk_5, tk_6, tk_7, tk_8, cs_n, cs_i, cs_l, cs_r, cs_u, nl, rt_s, rt_n, CST1, Nat.reduceAdd, Nat.reduceLeDiff, va_rf, rtOk, Bool.false_eq_true, Bool.true_eq_false, if_false, if_true, ite_true, ite_false, true_and, and_true, eq_self, ne_eq, not_false_eq_true, not_true_eq_false, false_implies, true_implies, and_self, reduceCtorEq, Nat.reduceBEq, Bool.or_false, Bool.false_or, Bool.or_true, Bool.true_or, if1_0, if1_1, if1_01, one_01, zer_01, lg_cmp_ge, lg_cmp_le, lg_cmp_gt, lg_cmp_lt, lg_cmp_eq, Classical.not_not, ↓im_F hc, ↓im_FN hc, hc, SHm hS, SHr hS, ei, vi, nI_1]
          exact h0
      refine hG (fun q => q == 17 || q == 47 || q == 54 || q == 75 || q == 88 || q == 189 || q == 223) 80 _ _ _ _ (Nat.le_of_ble_eq_true rfl) ?_
      simp only [D_X12_rows, N_X12_rows, ↓reduceIte, vcS, vcC, vcI, gtF, ptF, inS, inV, fv0, fv1, fv2, fv3, fw0, fw1, lg_0, lg_1, lg_2, lg_3, lg_4, lg_5, lg_6, lg_7, lg_8, lg_9, lg_10, lg_11, lg_12, lg_13, lg_14, lsq_0, lsl_0, lsq_1, lsl_1, lsq_2, lsl_2, lsq_3, lsl_3, lsq_4, lsl_4, lsq_5, lsl_5, lsq_6, lsl_6, lsq_7, lsl_7, lsq_8, lsl_8, lsq_9, lsl_9, lsq_10, lsl_10, lsq_11, lsl_11, lsq_12, lsl_12, lsq_13, lsl_13, lsq_14, lsl_14, tk_0, tk_1, tk_2, tk_3, tk_4, tk_5, tk_6, tk_7, tk_8, cs_n, cs_i, cs_l, cs_r, cs_u, nl, rt_s, rt_n, CST1, Nat.reduceAdd, Nat.reduceLeDiff, va_rf, rtOk, Bool.false_eq_true, Bool.true_eq_false, if_false, if_true, ite_true, ite_false, true_and, and_true, eq_self, ne_eq, not_false_eq_true, not_true_eq_false, false_implies, true_implies, and_self, reduceCtorEq, Nat.reduceBEq, Bool.or_false, Bool.false_or, Bool.or_true, Bool.true_or, if1_0, if1_1, if1_01, one_01, zer_01, lg_cmp_ge, lg_cmp_le, lg_cmp_gt, lg_cmp_lt, lg_cmp_eq, Classical.not_not, ↓im_F hc, ↓im_FN hc, hc, SHm hS, SHr hS]
      have := loB 80 0 v4 v5 v6 (by omega)
      rw [rg_0] at this
      exact this
  -- comes begins with the start
  have loA : ∀ (m i : Nat) (v3 v4 v5 v6 : Value), i + m = 80 → AW G 7 n 0 0 mu ro (rgS sg 77 0 i (fun x => if x = 4 then 1 else 0)) 17 [.ref 48, .int (nI w), .int (nI i), v3, v4, v5, v6] [] := by
    intro m
    induction m with
    | zero =>
      intro i v3 v4 v5 v6 hi
      have hc : (80 ≤ nI i) = True := eq_true (by have := nI_toInt (n := i) (by omega); ((try simp only [i_le, i_lt, i_eq, l_le, l_lt, l_eq, i_ne, l_ne, toL, l_add, l_sub1, LIT1, LIT2, Int.reduceNeg, ge_iff_le, gt_iff_lt] at *); omega))
      refine hG (fun q => q == 17 || q == 47 || q == 54 || q == 75 || q == 88 || q == 189 || q == 223) 80 _ _ _ _ (Nat.le_of_ble_eq_true rfl) ?_
      simp only [D_X12_rows, N_X12_rows, ↓reduceIte, vcS, vcC, vcI, gtF, ptF, inS, inV, fv0, fv1, fv2, fv3, fw0, fw1, lg_0, lg_1, lg_2, lg_3, lg_4, lg_5, lg_6, lg_7, lg_8, lg_9, lg_10, lg_11, lg_12, lg_13, lg_14, lsq_0, lsl_0, lsq_1, lsl_1, lsq_2, lsl_2, lsq_3, lsl_3, lsq_4, lsl_4, lsq_5, lsl_5, lsq_6, lsl_6, lsq_7, lsl_7, lsq_8, lsl_8, lsq_9, lsl_9, lsq_10, lsl_10, lsq_11, lsl_11, lsq_12, lsl_12, lsq_13, lsl_13, lsq_14, lsl_14, tk_0, tk_1, tk_2, tk_3, tk_4, tk_5, tk_6, tk_7, tk_8, cs_n, cs_i, cs_l, cs_r, cs_u, nl, rt_s, rt_n, CST1, Nat.reduceAdd, Nat.reduceLeDiff, va_rf, rtOk, Bool.false_eq_true, Bool.true_eq_false, if_false, if_true, ite_true, ite_false, true_and, and_true, eq_self, ne_eq, not_false_eq_true, not_true_eq_false, false_implies, true_implies, and_self, reduceCtorEq, Nat.reduceBEq, Bool.or_false, Bool.false_or, Bool.or_true, Bool.true_or, if1_0, if1_1, if1_01, one_01, zer_01, lg_cmp_ge, lg_cmp_le, lg_cmp_gt, lg_cmp_lt, lg_cmp_eq, Classical.not_not, ↓im_T hc, ↓im_TN hc, hc, nI_1]
      refine loK w 0 _ _ _ _ _ (by omega) (fun a j h1 h2 => by rw [rg_n (by omega)]) (cm_0 (fun y hy => ?_))
      rw [rg_y ⟨rfl, by omega, by omega⟩, Nat.sub_zero]
    | succ m ih =>
      intro i v3 v4 v5 v6 hi
      have hc : (80 ≤ nI i) = False := eq_false (by have := nI_toInt (n := i) (by omega); ((try simp only [i_le, i_lt, i_eq, l_le, l_lt, l_eq, i_ne, l_ne, toL, l_add, l_sub1, LIT1, LIT2, Int.reduceNeg, ge_iff_le, gt_iff_lt] at *); omega))
      have ei : (nI i).toNatClampNeg = i := nI_clamp (by omega)
      have vi : vp_in (nI i) 80 := vp_in_nI (by omega) (by decide)
      have h0 := ih (i + 1) v3 v4 v5 v6 (by omega)
      rw [← rg_s (j := i) (x := if i = 4 then 1 else 0) (by omega) rfl] at h0
      have i4 : (nI i = 4) = (i = 4) := propext (nI_eq (b := 4) (by omega) (by decide))
      refine hG (fun q => q == 17 || q == 47 || q == 54 || q == 75 || q == 88 || q == 189 || q == 223) 80 _ _ _ _ (Nat.le_of_ble_eq_true rfl) ?_
      simp only [D_X12_rows, N_X12_rows, ↓reduceIte, vcS, vcC, vcI, gtF, ptF, inS, inV, fv0, fv1, fv2, fv3, fw0, fw1, lg_0, lg_1, lg_2, lg_3, lg_4, lg_5, lg_6, lg_7, lg_8, lg_9, lg_10, lg_11, lg_12, lg_13, lg_14, lsq_0, lsl_0, lsq_1, lsl_1, lsq_2, lsl_2, lsq_3, lsl_3, lsq_4, lsl_4, lsq_5, lsl_5, lsq_6, lsl_6, lsq_7, lsl_7, lsq_8, lsl_8, lsq_9, lsl_9, lsq_10, lsl_10, lsq_11, lsl_11, lsq_12, lsl_12, lsq_13, lsl_13, lsq_14, lsl_14, tk_0, tk_1, tk_2, tk_3, tk_4, tk_5, tk_6, tk_7, tk_8, cs_n, cs_i, cs_l, cs_r, cs_u, nl, rt_s, rt_n, CST1, Nat.reduceAdd, Nat.reduceLeDiff, va_rf, rtOk, Bool.false_eq_true, Bool.true_eq_false, if_false, if_true, ite_true, ite_false, true_and, and_true, eq_self, ne_eq, not_false_eq_true, not_true_eq_false, false_implies, true_implies, and_self, reduceCtorEq, Nat.reduceBEq, Bool.or_false, Bool.false_or, Bool.or_true, Bool.true_or, if1_0, if1_1, if1_01, one_01, zer_01, lg_cmp_ge, lg_cmp_le, lg_cmp_gt, lg_cmp_lt, lg_cmp_eq, Classical.not_not, ↓im_F hc, ↓im_FN hc, hc, SHm hS, SHr hS, ei, vi, nI_1, i4]
      refine ⟨fun q => ?_, fun q => ?_⟩
      · rw [if_neg q] at h0; exact h0
      · rw [if_pos q] at h0; exact h0
  have := loA 80 0 (.float 0) (.float 0) (.float 0) (.float 0) (by omega)
  rw [rg_0] at this
  exact this
set_option maxHeartbeats 4000000 in
set_option maxRecDepth 100000 in
theorem b_rows {x : Int32} (hS : Sh mu ro) (hd : 3 ≤ d) (hT : I_tp sg N) (hk : ∀ r sg2, Fr [] sg sg2 → K r sg2) : aCall d 125 [.ref 0, .int x] n mu ro sg (fun r1 sg1 => aCall d 222 [.ref 48, .int x] n mu ro sg1 (fun r2 sg2 => r1 = r2 ∧ K r1 sg2)) := by
  obtain ⟨L, cb, t1, t2, t3⟩ := tp_of hT
  have hb := hT.2.2.2.1
  refine c_rows hS hd t1 t2 (fun q => ?_) (fun w hw hx σ hF => ?_)
  · exact m_rows hS hd t1 t3 (fun _ => ⟨rfl, hk _ _ Fr.rfl⟩) (fun w hw hx => absurd ⟨by rw [hx, nI_toInt (by omega)]; omega, by rw [hx, nI_toInt (by omega)]; omega⟩ q)
  · refine m_rows hS hd t1 ⟨by rw [hF 48 36 (by decide)]; exact t3.1, fun x hx => by rw [hF 75 x (by decide)]; exact t3.2 x hx⟩ (fun q => absurd ⟨by rw [hx, nI_toInt (by omega)]; omega, by rw [hx, nI_toInt (by omega)]; omega⟩ q) (fun w2 hw2 hx2 σ2 hF2 => ?_)
    have : w = w2 := (nI_eq (by omega) (by omega)).mp (hx.symm.trans hx2)
    subst this
    rw [hF 48 39 (by decide), ← hb]
    refine ⟨rfl, hk _ _ (fun a j h1 h2 => ?_)⟩
    have a1 : a ≠ 77 := by rintro rfl; exact h2 rfl
    have a2 : a ≠ 78 := by rintro rfl; exact h2 rfl
    have a3 : a ≠ 34 := by rintro rfl; exact h2 rfl
    rw [hF2 a j a1 a2, hF a j a3]
end H39
