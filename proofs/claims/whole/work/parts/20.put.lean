/-! part 20: put, told, miss on both sides -/
section H20
variable {d n N : Nat} {mu : aM} {ro : aR} {sg : aS} {K : Option Value → aS → Prop}
def upR (f : Nat → Int32) (x : Nat) (w : Int32) : Nat → Int32 := upd (upd (upd f (spN x 0) (f (spN x 0) + w)) (spN x 1) (f (spN x 1) + w)) (spN x 2) (f (spN x 2) + w)
def nm3 (s : aS) (A x : Nat) (w : Int32) : aS := va_up s A (upR (s A) x w)
theorem spN_ne {x : Nat} : spN x 0 ≠ spN x 1 ∧ spN x 0 ≠ spN x 2 ∧ spN x 1 ≠ spN x 2 := by
  unfold spN
  simp only [if_true, Nat.reduceEqDiff, if_false]
  omega
theorem s2_own {s : aS} {a k : Nat} {x : Int32} : s2 s a k x a k = x := by rw [s2_eq]; simp [upd]
theorem s2_oth {s : aS} {a k j : Nat} {x : Int32} (h : j ≠ k) : s2 s a k x a j = s a j := by rw [s2_eq]; simp [upd, h]
theorem s2_far {s : aS} {a b k j : Nat} {x : Int32} (h : b ≠ a) : s2 s a k x b j = s b j := by rw [s2_ne h]
theorem nm3_seq {s : aS} {A x : Nat} {w : Int32} : s2 (s2 (s2 s A (spN x 0) (s A (spN x 0) + w)) A (spN x 1) (s A (spN x 1) + w)) A (spN x 2) (s A (spN x 2) + w) = nm3 s A x w := by
  funext b j
  by_cases hb : b = A
  · subst hb
    simp [s2, nm3, va_up, upR]
  · simp [s2, nm3, va_up, hb]
theorem nm3_ne {s : aS} {A x b : Nat} {w : Int32} (h : b ≠ A) : nm3 s A x w b = s b := by simp [nm3, va_up, h]
theorem nm3_eq {s : aS} {A x : Nat} {w : Int32} : nm3 s A x w A = upR (s A) x w := by simp [nm3, va_up]
theorem upR_congr {f g : Nat → Int32} {x : Nat} {w : Int32} (h : ∀ j, j < 48 → f j = g j) : ∀ j, j < 48 → upR f x w j = upR g x w j := by
  intro j hj
  have e0 := h (spN x 0) (spN_lt (by decide))
  have e1 := h (spN x 1) (spN_lt (by decide))
  have e2 := h (spN x 2) (spN_lt (by decide))
  simp only [upR, upd, e0, e1, e2, h j hj]
theorem tdF_congr {f g : Nat → Int32} {x : Nat} (h : ∀ j, j < 48 → f j = g j) : tdF f x = tdF g x := by
  unfold tdF
  rw [h _ (spN_lt (by decide)), h _ (spN_lt (by decide)), h _ (spN_lt (by decide))]
theorem Fr.nm3 {ms : List Nat} {s s' : aS} {A x m : Nat} {w : Int32} (h : Fr ms s s') (hr : ∀ k, reg A k = m) (hm : m ∈ ms) : Fr ms s (nm3 s' A x w) := by
  intro b j q1 q2
  by_cases hb : b = A
  · subst hb
    exact absurd (by rw [hr j]; exact hm) q1
  · rw [nm3_ne hb]
    exact h b j q1 q2
-- the state behind a thing that is put in
def putS (s : aS) (NUM THG TIM o k N x : Nat) (w : Int32) : Option Nat → aS
  | some j => nm3 (s2 s TIM j (s TIM j + w)) NUM x w
  | none => if 200 ≤ N then s else nm3 (s2 (s2 (s2 s THG N (nI x)) o k (nI (N + 1))) TIM N (0 + w)) NUM x w
def putB (N : Nat) : Option Nat → Prop
  | some _ => True
  | none => ¬ 200 ≤ N
theorem fdR_none {f : Nat → Int32} {x : Int32} {N : Nat} (h : fdN f x N 0 = none) : fdR f x N = -9 := by simp [fdR, h]
theorem fdR_some {f : Nat → Int32} {x : Int32} {N j : Nat} (h : fdN f x N 0 = some j) : fdR f x N = nI j := by simp [fdR, h]
-- the three numbers, unrolled: shared facts
set_option maxHeartbeats 4000000 in
set_option maxRecDepth 100000 in
theorem c_take {x : Nat} {w : Int32} (hS : Sh mu ro) (hd : 2 ≤ d) (hx : x ≤ 9999) (hN : sg 26 3 = nI N) (hN2 : N ≤ 200) (h0 : N < 200 → sg 29 N = 0) (hk1 : putB N (fdN (sg 28) (nI x) N 0) → K (some (.int 1)) (putS sg 27 28 29 26 3 N x w (fdN (sg 28) (nI x) N 0))) (hk2 : ¬ putB N (fdN (sg 28) (nI x) N 0) → K (some (.int 0)) sg) : aCall d 54 [.ref 26, .int (nI x), .int w] n mu ro sg K := by
  obtain ⟨n01, n02, n12⟩ := spN_ne (x := x)
  have e0 : (nI (spN x 0)).toNatClampNeg = spN x 0 := nI_clamp (by have := spN_lt (x := x) (r := 0) (by decide); omega)
  have e1 : (nI (spN x 1)).toNatClampNeg = spN x 1 := nI_clamp (by have := spN_lt (x := x) (r := 1) (by decide); omega)
  have e2 : (nI (spN x 2)).toNatClampNeg = spN x 2 := nI_clamp (by have := spN_lt (x := x) (r := 2) (by decide); omega)
  have v0 : vp_in (nI (spN x 0)) 48 := vp_in_nI (spN_lt (by decide)) (by decide)
  have v1 : vp_in (nI (spN x 1)) 48 := vp_in_nI (spN_lt (by decide)) (by decide)
  have v2 : vp_in (nI (spN x 2)) 48 := vp_in_nI (spN_lt (by decide)) (by decide)
  have c00 : ¬ (3 : Int32) ≤ 0 := by decide
  have c01 : ¬ (3 : Int32) ≤ 1 := by decide
  have c02 : ¬ (3 : Int32) ≤ 2 := by decide
  have c03 : (3 : Int32) ≤ 3 := by decide
  have p0 : (0 : Int32) + 1 = 1 := by decide
  have p1 : (1 : Int32) + 1 = 2 := by decide
  have p2 : (2 : Int32) + 1 = 3 := by decide
  refine aCall_start (mL := 5) (cc := cX7_take) (o := 7) (ret := (some .boolean)) 2 (by decide) (by decide +kernel) rfl rfl rfl rfl (Nat.le_of_ble_eq_true rfl) (fun G hC hG => ?_)
  simp only [exL, List.cons_append, List.nil_append, rp_0, rp_1, rp_2, rp_3, rp_4, rp_5, rp_6, rp_7, rp_8, rp_9, rp_10, rp_11, List.append_nil]
  have tail : ∀ (s : aS) (j : Int32), K (some (.int 1)) (nm3 s 27 x w) → AW G 5 n 0 0 mu ro s 56 [.ref 26, .int (nI x), .int w, .int j, .float 0] [] := by
    intro s j hq
    refine hG (fun _ => false) 90 _ _ _ _ (Nat.le_of_ble_eq_true rfl) ?_
    simp only [D_X7_take, N_X7_take, vcS, vcC, vcI, gtF, ptF, inS, inV, fv0, fv1, fv2, fv3, fw0, fw1, lg_0, lg_1, lg_2, lg_3, lg_4, lg_5, lg_6, lg_7, lg_8, lg_9, lg_10, lg_11, lg_12, lg_13, lg_14, lsq_0, lsl_0, lsq_1, lsl_1, lsq_2, lsl_2, lsq_3, lsl_3, lsq_4, lsl_4, lsq_5, lsl_5, lsq_6, lsl_6, lsq_7, lsl_7, lsq_8, lsl_8, lsq_9, lsl_9, lsq_10, lsl_10, lsq_11, lsl_11, lsq_12, lsl_12, lsq_13, lsl_13, lsq_14, lsl_14, tk_0, tk_1, tk_2, tk_3, tk_4, tk_5, tk_6, tk_7, tk_8, cs_n, cs_i, cs_l, cs_r, cs_u, nl, rt_s, rt_n, CST1, Nat.reduceAdd, Nat.reduceLeDiff, va_rf, rtOk, Bool.false_eq_true, Bool.true_eq_false, if_false, if_true, ite_true, ite_false, true_and, and_true, eq_self, ne_eq, not_false_eq_true, not_true_eq_false, false_implies, true_implies, and_self, reduceCtorEq, Nat.reduceBEq, Bool.or_false, Bool.false_or, Bool.or_true, Bool.true_or, if1_0, if1_1, if1_01, one_01, zer_01, lg_cmp_ge, lg_cmp_le, lg_cmp_gt, lg_cmp_lt, lg_cmp_eq, Classical.not_not, SHm hS, SHr hS, c00]
    refine ⟨by omega, c_spotOf (r := 0) hx (by decide) ?_⟩
    simp only [D_X7_take, N_X7_take, vcS, vcC, vcI, gtF, ptF, inS, inV, fv0, fv1, fv2, fv3, fw0, fw1, lg_0, lg_1, lg_2, lg_3, lg_4, lg_5, lg_6, lg_7, lg_8, lg_9, lg_10, lg_11, lg_12, lg_13, lg_14, lsq_0, lsl_0, lsq_1, lsl_1, lsq_2, lsl_2, lsq_3, lsl_3, lsq_4, lsl_4, lsq_5, lsl_5, lsq_6, lsl_6, lsq_7, lsl_7, lsq_8, lsl_8, lsq_9, lsl_9, lsq_10, lsl_10, lsq_11, lsl_11, lsq_12, lsl_12, lsq_13, lsl_13, lsq_14, lsl_14, tk_0, tk_1, tk_2, tk_3, tk_4, tk_5, tk_6, tk_7, tk_8, cs_n, cs_i, cs_l, cs_r, cs_u, nl, rt_s, rt_n, CST1, Nat.reduceAdd, Nat.reduceLeDiff, va_rf, rtOk, Bool.false_eq_true, Bool.true_eq_false, if_false, if_true, ite_true, ite_false, true_and, and_true, eq_self, ne_eq, not_false_eq_true, not_true_eq_false, false_implies, true_implies, and_self, reduceCtorEq, Nat.reduceBEq, Bool.or_false, Bool.false_or, Bool.or_true, Bool.true_or, if1_0, if1_1, if1_01, one_01, zer_01, lg_cmp_ge, lg_cmp_le, lg_cmp_gt, lg_cmp_lt, lg_cmp_eq, Classical.not_not, SHm hS, SHr hS, e0, p0, c01]
    refine ⟨v0, v0, by omega, c_spotOf (r := 1) hx (by decide) ?_⟩
    simp only [D_X7_take, N_X7_take, vcS, vcC, vcI, gtF, ptF, inS, inV, fv0, fv1, fv2, fv3, fw0, fw1, lg_0, lg_1, lg_2, lg_3, lg_4, lg_5, lg_6, lg_7, lg_8, lg_9, lg_10, lg_11, lg_12, lg_13, lg_14, lsq_0, lsl_0, lsq_1, lsl_1, lsq_2, lsl_2, lsq_3, lsl_3, lsq_4, lsl_4, lsq_5, lsl_5, lsq_6, lsl_6, lsq_7, lsl_7, lsq_8, lsl_8, lsq_9, lsl_9, lsq_10, lsl_10, lsq_11, lsl_11, lsq_12, lsl_12, lsq_13, lsl_13, lsq_14, lsl_14, tk_0, tk_1, tk_2, tk_3, tk_4, tk_5, tk_6, tk_7, tk_8, cs_n, cs_i, cs_l, cs_r, cs_u, nl, rt_s, rt_n, CST1, Nat.reduceAdd, Nat.reduceLeDiff, va_rf, rtOk, Bool.false_eq_true, Bool.true_eq_false, if_false, if_true, ite_true, ite_false, true_and, and_true, eq_self, ne_eq, not_false_eq_true, not_true_eq_false, false_implies, true_implies, and_self, reduceCtorEq, Nat.reduceBEq, Bool.or_false, Bool.false_or, Bool.or_true, Bool.true_or, if1_0, if1_1, if1_01, one_01, zer_01, lg_cmp_ge, lg_cmp_le, lg_cmp_gt, lg_cmp_lt, lg_cmp_eq, Classical.not_not, SHm hS, SHr hS, e1, p1, c02]
    refine ⟨v1, v1, by omega, c_spotOf (r := 2) hx (by decide) ?_⟩
    simp only [D_X7_take, N_X7_take, vcS, vcC, vcI, gtF, ptF, inS, inV, fv0, fv1, fv2, fv3, fw0, fw1, lg_0, lg_1, lg_2, lg_3, lg_4, lg_5, lg_6, lg_7, lg_8, lg_9, lg_10, lg_11, lg_12, lg_13, lg_14, lsq_0, lsl_0, lsq_1, lsl_1, lsq_2, lsl_2, lsq_3, lsl_3, lsq_4, lsl_4, lsq_5, lsl_5, lsq_6, lsl_6, lsq_7, lsl_7, lsq_8, lsl_8, lsq_9, lsl_9, lsq_10, lsl_10, lsq_11, lsl_11, lsq_12, lsl_12, lsq_13, lsl_13, lsq_14, lsl_14, tk_0, tk_1, tk_2, tk_3, tk_4, tk_5, tk_6, tk_7, tk_8, cs_n, cs_i, cs_l, cs_r, cs_u, nl, rt_s, rt_n, CST1, Nat.reduceAdd, Nat.reduceLeDiff, va_rf, rtOk, Bool.false_eq_true, Bool.true_eq_false, if_false, if_true, ite_true, ite_false, true_and, and_true, eq_self, ne_eq, not_false_eq_true, not_true_eq_false, false_implies, true_implies, and_self, reduceCtorEq, Nat.reduceBEq, Bool.or_false, Bool.false_or, Bool.or_true, Bool.true_or, if1_0, if1_1, if1_01, one_01, zer_01, lg_cmp_ge, lg_cmp_le, lg_cmp_gt, lg_cmp_lt, lg_cmp_eq, Classical.not_not, SHm hS, SHr hS, e2, p2, c03]
    refine ⟨v2, v2, ?_⟩
    rw [s2_oth n12.symm, s2_oth n02.symm, s2_oth n01.symm, nm3_seq]
    exact hq
  refine hG (fun q => q == 56) 60 _ _ _ _ (Nat.le_of_ble_eq_true rfl) ?_
  simp only [D_X7_take, N_X7_take, vcS, vcC, vcI, gtF, ptF, inS, inV, fv0, fv1, fv2, fv3, fw0, fw1, lg_0, lg_1, lg_2, lg_3, lg_4, lg_5, lg_6, lg_7, lg_8, lg_9, lg_10, lg_11, lg_12, lg_13, lg_14, lsq_0, lsl_0, lsq_1, lsl_1, lsq_2, lsl_2, lsq_3, lsl_3, lsq_4, lsl_4, lsq_5, lsl_5, lsq_6, lsl_6, lsq_7, lsl_7, lsq_8, lsl_8, lsq_9, lsl_9, lsq_10, lsl_10, lsq_11, lsl_11, lsq_12, lsl_12, lsq_13, lsl_13, lsq_14, lsl_14, tk_0, tk_1, tk_2, tk_3, tk_4, tk_5, tk_6, tk_7, tk_8, cs_n, cs_i, cs_l, cs_r, cs_u, nl, rt_s, rt_n, CST1, Nat.reduceAdd, Nat.reduceLeDiff, va_rf, rtOk, Bool.false_eq_true, Bool.true_eq_false, if_false, if_true, ite_true, ite_false, true_and, and_true, eq_self, ne_eq, not_false_eq_true, not_true_eq_false, false_implies, true_implies, and_self, reduceCtorEq, Nat.reduceBEq, Bool.or_false, Bool.false_or, Bool.or_true, Bool.true_or, if1_0, if1_1, if1_01, one_01, zer_01, lg_cmp_ge, lg_cmp_le, lg_cmp_gt, lg_cmp_lt, lg_cmp_eq, Classical.not_not, SHm hS, SHr hS]
  refine ⟨by omega, c_indexOf hS hN hN2 ?_⟩
  cases hf : fdN (sg 28) (nI x) N 0 with
  | some j =>
    rw [hf] at hk1
    obtain ⟨-, j1, j2⟩ := (fdN_spec (f := sg 28) (x := nI x) N 0).1 j hf
    have ej : (nI j).toNatClampNeg = j := nI_clamp (by omega)
    have nj : ¬ nI j = -9 := by
      intro q
      have := congrArg Int32.toInt q
      rw [nI_toInt (by omega)] at this
      simp [LIT1] at this
    rw [fdR_some hf]
    simp only [D_X7_take, N_X7_take, vcS, vcC, vcI, gtF, ptF, inS, inV, fv0, fv1, fv2, fv3, fw0, fw1, lg_0, lg_1, lg_2, lg_3, lg_4, lg_5, lg_6, lg_7, lg_8, lg_9, lg_10, lg_11, lg_12, lg_13, lg_14, lsq_0, lsl_0, lsq_1, lsl_1, lsq_2, lsl_2, lsq_3, lsl_3, lsq_4, lsl_4, lsq_5, lsl_5, lsq_6, lsl_6, lsq_7, lsl_7, lsq_8, lsl_8, lsq_9, lsl_9, lsq_10, lsl_10, lsq_11, lsl_11, lsq_12, lsl_12, lsq_13, lsl_13, lsq_14, lsl_14, tk_0, tk_1, tk_2, tk_3, tk_4, tk_5, tk_6, tk_7, tk_8, cs_n, cs_i, cs_l, cs_r, cs_u, nl, rt_s, rt_n, CST1, Nat.reduceAdd, Nat.reduceLeDiff, va_rf, rtOk, Bool.false_eq_true, Bool.true_eq_false, if_false, if_true, ite_true, ite_false, true_and, and_true, eq_self, ne_eq, not_false_eq_true, not_true_eq_false, false_implies, true_implies, and_self, reduceCtorEq, Nat.reduceBEq, Bool.or_false, Bool.false_or, Bool.or_true, Bool.true_or, if1_0, if1_1, if1_01, one_01, zer_01, lg_cmp_ge, lg_cmp_le, lg_cmp_gt, lg_cmp_lt, lg_cmp_eq, Classical.not_not, SHm hS, SHr hS, nj, ej]
    have vj : vp_in (nI j) 200 := vp_in_nI (by omega) (by decide)
    refine ⟨vj, vj, tail _ _ (hk1 trivial)⟩
  | none =>
    rw [hf] at hk1 hk2
    have eN : (nI N).toNatClampNeg = N := nI_clamp (by omega)
    have r1 : ∀ (k : Nat) (y : Int32), s2 sg 28 k y 26 3 = nI N := fun k y => by rw [s2_far (by decide)]; exact hN
    have r2 : ∀ (y z : Int32), s2 (s2 sg 28 N y) 26 3 z 29 N = sg 29 N := fun y z => by rw [s2_far (by decide), s2_far (by decide)]
    rw [fdR_none hf]
    simp only [D_X7_take, N_X7_take, vcS, vcC, vcI, gtF, ptF, inS, inV, fv0, fv1, fv2, fv3, fw0, fw1, lg_0, lg_1, lg_2, lg_3, lg_4, lg_5, lg_6, lg_7, lg_8, lg_9, lg_10, lg_11, lg_12, lg_13, lg_14, lsq_0, lsl_0, lsq_1, lsl_1, lsq_2, lsl_2, lsq_3, lsl_3, lsq_4, lsl_4, lsq_5, lsl_5, lsq_6, lsl_6, lsq_7, lsl_7, lsq_8, lsl_8, lsq_9, lsl_9, lsq_10, lsl_10, lsq_11, lsl_11, lsq_12, lsl_12, lsq_13, lsl_13, lsq_14, lsl_14, tk_0, tk_1, tk_2, tk_3, tk_4, tk_5, tk_6, tk_7, tk_8, cs_n, cs_i, cs_l, cs_r, cs_u, nl, rt_s, rt_n, CST1, Nat.reduceAdd, Nat.reduceLeDiff, va_rf, rtOk, Bool.false_eq_true, Bool.true_eq_false, if_false, if_true, ite_true, ite_false, true_and, and_true, eq_self, ne_eq, not_false_eq_true, not_true_eq_false, false_implies, true_implies, and_self, reduceCtorEq, Nat.reduceBEq, Bool.or_false, Bool.false_or, Bool.or_true, Bool.true_or, if1_0, if1_1, if1_01, one_01, zer_01, lg_cmp_ge, lg_cmp_le, lg_cmp_gt, lg_cmp_lt, lg_cmp_eq, Classical.not_not, SHm hS, SHr hS, hN, eN, r1, r2, nI_1]
    refine ⟨fun q => ?_, fun q => ?_⟩
    · have q9 : ¬ 200 ≤ N := by simp only [i_lt, LIT1, nI_toInt (show N < 2 ^ 31 by omega)] at q; omega
      have vN : vp_in (nI N) 200 := vp_in_nI (by omega) (by decide)
      refine ⟨vN, vN, vN, tail _ _ ?_⟩
      have := hk1 q9
      rw [putS, if_neg q9] at this
      rw [h0 (by omega)]
      exact this
    · exact hk2 (by simp only [putB]; simp only [i_lt, LIT1, nI_toInt (show N < 2 ^ 31 by omega)] at q; omega)
set_option maxHeartbeats 4000000 in
set_option maxRecDepth 100000 in
theorem m_put {x : Nat} {w : Int32} (hS : Sh mu ro) (hd : 3 ≤ d) (hx : x ≤ 9999) (hw : 1 ≤ w.toInt ∧ w.toInt ≤ 99) (hN : sg 48 33 = nI N) (hN2 : N ≤ 200) (hk1 : putB N (fdN (sg 73) (nI x) N 0) → K (some (.int (tdF (putS sg 72 73 74 48 33 N x w (fdN (sg 73) (nI x) N 0) 72) x))) (putS sg 72 73 74 48 33 N x w (fdN (sg 73) (nI x) N 0))) (hk2 : ¬ putB N (fdN (sg 73) (nI x) N 0) → K (some (.int (-4))) sg) : aCall d 210 [.ref 48, .int (nI x), .int w] n mu ro sg K := by
  obtain ⟨n01, n02, n12⟩ := spN_ne (x := x)
  have e0 : (nI (spN x 0)).toNatClampNeg = spN x 0 := nI_clamp (by have := spN_lt (x := x) (r := 0) (by decide); omega)
  have e1 : (nI (spN x 1)).toNatClampNeg = spN x 1 := nI_clamp (by have := spN_lt (x := x) (r := 1) (by decide); omega)
  have e2 : (nI (spN x 2)).toNatClampNeg = spN x 2 := nI_clamp (by have := spN_lt (x := x) (r := 2) (by decide); omega)
  have v0 : vp_in (nI (spN x 0)) 48 := vp_in_nI (spN_lt (by decide)) (by decide)
  have v1 : vp_in (nI (spN x 1)) 48 := vp_in_nI (spN_lt (by decide)) (by decide)
  have v2 : vp_in (nI (spN x 2)) 48 := vp_in_nI (spN_lt (by decide)) (by decide)
  have c00 : ¬ (3 : Int32) ≤ 0 := by decide
  have c01 : ¬ (3 : Int32) ≤ 1 := by decide
  have c02 : ¬ (3 : Int32) ≤ 2 := by decide
  have c03 : (3 : Int32) ≤ 3 := by decide
  have p0 : (0 : Int32) + 1 = 1 := by decide
  have p1 : (1 : Int32) + 1 = 2 := by decide
  have p2 : (2 : Int32) + 1 = 3 := by decide
  have hxt : (nI x).toInt = x := nI_toInt (by omega)
  refine aCall_start (mL := 5) (cc := cX12_put) (o := 12) (ret := (some .int)) 2 (by decide) (by decide +kernel) rfl rfl rfl rfl (Nat.le_of_ble_eq_true rfl) (fun G hC hG => ?_)
  simp only [exL, List.cons_append, List.nil_append, rp_0, rp_1, rp_2, rp_3, rp_4, rp_5, rp_6, rp_7, rp_8, rp_9, rp_10, rp_11, List.append_nil]
  have tail : ∀ (s : aS) (j : Int32), K (some (.int (tdF (nm3 s 72 x w 72) x))) (nm3 s 72 x w) → AW G 5 n 0 0 mu ro s 88 [.ref 48, .int (nI x), .int w, .int j, .float 0] [] := by
    intro s j hq
    refine hG (fun _ => false) 90 _ _ _ _ (Nat.le_of_ble_eq_true rfl) ?_
    simp only [D_X12_put, N_X12_put, vcS, vcC, vcI, gtF, ptF, inS, inV, fv0, fv1, fv2, fv3, fw0, fw1, lg_0, lg_1, lg_2, lg_3, lg_4, lg_5, lg_6, lg_7, lg_8, lg_9, lg_10, lg_11, lg_12, lg_13, lg_14, lsq_0, lsl_0, lsq_1, lsl_1, lsq_2, lsl_2, lsq_3, lsl_3, lsq_4, lsl_4, lsq_5, lsl_5, lsq_6, lsl_6, lsq_7, lsl_7, lsq_8, lsl_8, lsq_9, lsl_9, lsq_10, lsl_10, lsq_11, lsl_11, lsq_12, lsl_12, lsq_13, lsl_13, lsq_14, lsl_14, tk_0, tk_1, tk_2, tk_3, tk_4, tk_5, tk_6, tk_7, tk_8, cs_n, cs_i, cs_l, cs_r, cs_u, nl, rt_s, rt_n, CST1, Nat.reduceAdd, Nat.reduceLeDiff, va_rf, rtOk, Bool.false_eq_true, Bool.true_eq_false, if_false, if_true, ite_true, ite_false, true_and, and_true, eq_self, ne_eq, not_false_eq_true, not_true_eq_false, false_implies, true_implies, and_self, reduceCtorEq, Nat.reduceBEq, Bool.or_false, Bool.false_or, Bool.or_true, Bool.true_or, if1_0, if1_1, if1_01, one_01, zer_01, lg_cmp_ge, lg_cmp_le, lg_cmp_gt, lg_cmp_lt, lg_cmp_eq, Classical.not_not, SHm hS, SHr hS, c00]
    refine ⟨by omega, m_placeN (r := 0) hx (by decide) ?_⟩
    simp only [D_X12_put, N_X12_put, vcS, vcC, vcI, gtF, ptF, inS, inV, fv0, fv1, fv2, fv3, fw0, fw1, lg_0, lg_1, lg_2, lg_3, lg_4, lg_5, lg_6, lg_7, lg_8, lg_9, lg_10, lg_11, lg_12, lg_13, lg_14, lsq_0, lsl_0, lsq_1, lsl_1, lsq_2, lsl_2, lsq_3, lsl_3, lsq_4, lsl_4, lsq_5, lsl_5, lsq_6, lsl_6, lsq_7, lsl_7, lsq_8, lsl_8, lsq_9, lsl_9, lsq_10, lsl_10, lsq_11, lsl_11, lsq_12, lsl_12, lsq_13, lsl_13, lsq_14, lsl_14, tk_0, tk_1, tk_2, tk_3, tk_4, tk_5, tk_6, tk_7, tk_8, cs_n, cs_i, cs_l, cs_r, cs_u, nl, rt_s, rt_n, CST1, Nat.reduceAdd, Nat.reduceLeDiff, va_rf, rtOk, Bool.false_eq_true, Bool.true_eq_false, if_false, if_true, ite_true, ite_false, true_and, and_true, eq_self, ne_eq, not_false_eq_true, not_true_eq_false, false_implies, true_implies, and_self, reduceCtorEq, Nat.reduceBEq, Bool.or_false, Bool.false_or, Bool.or_true, Bool.true_or, if1_0, if1_1, if1_01, one_01, zer_01, lg_cmp_ge, lg_cmp_le, lg_cmp_gt, lg_cmp_lt, lg_cmp_eq, Classical.not_not, SHm hS, SHr hS, e0, p0, c01]
    refine ⟨v0, v0, by omega, m_placeN (r := 1) hx (by decide) ?_⟩
    simp only [D_X12_put, N_X12_put, vcS, vcC, vcI, gtF, ptF, inS, inV, fv0, fv1, fv2, fv3, fw0, fw1, lg_0, lg_1, lg_2, lg_3, lg_4, lg_5, lg_6, lg_7, lg_8, lg_9, lg_10, lg_11, lg_12, lg_13, lg_14, lsq_0, lsl_0, lsq_1, lsl_1, lsq_2, lsl_2, lsq_3, lsl_3, lsq_4, lsl_4, lsq_5, lsl_5, lsq_6, lsl_6, lsq_7, lsl_7, lsq_8, lsl_8, lsq_9, lsl_9, lsq_10, lsl_10, lsq_11, lsl_11, lsq_12, lsl_12, lsq_13, lsl_13, lsq_14, lsl_14, tk_0, tk_1, tk_2, tk_3, tk_4, tk_5, tk_6, tk_7, tk_8, cs_n, cs_i, cs_l, cs_r, cs_u, nl, rt_s, rt_n, CST1, Nat.reduceAdd, Nat.reduceLeDiff, va_rf, rtOk, Bool.false_eq_true, Bool.true_eq_false, if_false, if_true, ite_true, ite_false, true_and, and_true, eq_self, ne_eq, not_false_eq_true, not_true_eq_false, false_implies, true_implies, and_self, reduceCtorEq, Nat.reduceBEq, Bool.or_false, Bool.false_or, Bool.or_true, Bool.true_or, if1_0, if1_1, if1_01, one_01, zer_01, lg_cmp_ge, lg_cmp_le, lg_cmp_gt, lg_cmp_lt, lg_cmp_eq, Classical.not_not, SHm hS, SHr hS, e1, p1, c02]
    refine ⟨v1, v1, by omega, m_placeN (r := 2) hx (by decide) ?_⟩
    simp only [D_X12_put, N_X12_put, vcS, vcC, vcI, gtF, ptF, inS, inV, fv0, fv1, fv2, fv3, fw0, fw1, lg_0, lg_1, lg_2, lg_3, lg_4, lg_5, lg_6, lg_7, lg_8, lg_9, lg_10, lg_11, lg_12, lg_13, lg_14, lsq_0, lsl_0, lsq_1, lsl_1, lsq_2, lsl_2, lsq_3, lsl_3, lsq_4, lsl_4, lsq_5, lsl_5, lsq_6, lsl_6, lsq_7, lsl_7, lsq_8, lsl_8, lsq_9, lsl_9, lsq_10, lsl_10, lsq_11, lsl_11, lsq_12, lsl_12, lsq_13, lsl_13, lsq_14, lsl_14, tk_0, tk_1, tk_2, tk_3, tk_4, tk_5, tk_6, tk_7, tk_8, cs_n, cs_i, cs_l, cs_r, cs_u, nl, rt_s, rt_n, CST1, Nat.reduceAdd, Nat.reduceLeDiff, va_rf, rtOk, Bool.false_eq_true, Bool.true_eq_false, if_false, if_true, ite_true, ite_false, true_and, and_true, eq_self, ne_eq, not_false_eq_true, not_true_eq_false, false_implies, true_implies, and_self, reduceCtorEq, Nat.reduceBEq, Bool.or_false, Bool.false_or, Bool.or_true, Bool.true_or, if1_0, if1_1, if1_01, one_01, zer_01, lg_cmp_ge, lg_cmp_le, lg_cmp_gt, lg_cmp_lt, lg_cmp_eq, Classical.not_not, SHm hS, SHr hS, e2, p2, c03]
    refine ⟨v2, v2, ?_⟩
    rw [s2_oth n12.symm, s2_oth n02.symm, s2_oth n01.symm, nm3_seq]
    refine ⟨by omega, m_toldOf hS (by omega) hx ?_⟩
    simp only [D_X12_put, N_X12_put, vcS, vcC, vcI, gtF, ptF, inS, inV, fv0, fv1, fv2, fv3, fw0, fw1, lg_0, lg_1, lg_2, lg_3, lg_4, lg_5, lg_6, lg_7, lg_8, lg_9, lg_10, lg_11, lg_12, lg_13, lg_14, lsq_0, lsl_0, lsq_1, lsl_1, lsq_2, lsl_2, lsq_3, lsl_3, lsq_4, lsl_4, lsq_5, lsl_5, lsq_6, lsl_6, lsq_7, lsl_7, lsq_8, lsl_8, lsq_9, lsl_9, lsq_10, lsl_10, lsq_11, lsl_11, lsq_12, lsl_12, lsq_13, lsl_13, lsq_14, lsl_14, tk_0, tk_1, tk_2, tk_3, tk_4, tk_5, tk_6, tk_7, tk_8, cs_n, cs_i, cs_l, cs_r, cs_u, nl, rt_s, rt_n, CST1, Nat.reduceAdd, Nat.reduceLeDiff, va_rf, rtOk, Bool.false_eq_true, Bool.true_eq_false, if_false, if_true, ite_true, ite_false, true_and, and_true, eq_self, ne_eq, not_false_eq_true, not_true_eq_false, false_implies, true_implies, and_self, reduceCtorEq, Nat.reduceBEq, Bool.or_false, Bool.false_or, Bool.or_true, Bool.true_or, if1_0, if1_1, if1_01, one_01, zer_01, lg_cmp_ge, lg_cmp_le, lg_cmp_gt, lg_cmp_lt, lg_cmp_eq, Classical.not_not, SHm hS, SHr hS]
    exact hq
  refine hG (fun q => q == 88) 60 _ _ _ _ (Nat.le_of_ble_eq_true rfl) ?_
  simp only [D_X12_put, N_X12_put, vcS, vcC, vcI, gtF, ptF, inS, inV, fv0, fv1, fv2, fv3, fw0, fw1, lg_0, lg_1, lg_2, lg_3, lg_4, lg_5, lg_6, lg_7, lg_8, lg_9, lg_10, lg_11, lg_12, lg_13, lg_14, lsq_0, lsl_0, lsq_1, lsl_1, lsq_2, lsl_2, lsq_3, lsl_3, lsq_4, lsl_4, lsq_5, lsl_5, lsq_6, lsl_6, lsq_7, lsl_7, lsq_8, lsl_8, lsq_9, lsl_9, lsq_10, lsl_10, lsq_11, lsl_11, lsq_12, lsl_12, lsq_13, lsl_13, lsq_14, lsl_14, tk_0, tk_1, tk_2, tk_3, tk_4, tk_5, tk_6, tk_7, tk_8, cs_n, cs_i, cs_l, cs_r, cs_u, nl, rt_s, rt_n, CST1, Nat.reduceAdd, Nat.reduceLeDiff, va_rf, rtOk, Bool.false_eq_true, Bool.true_eq_false, if_false, if_true, ite_true, ite_false, true_and, and_true, eq_self, ne_eq, not_false_eq_true, not_true_eq_false, false_implies, true_implies, and_self, reduceCtorEq, Nat.reduceBEq, Bool.or_false, Bool.false_or, Bool.or_true, Bool.true_or, if1_0, if1_1, if1_01, one_01, zer_01, lg_cmp_ge, lg_cmp_le, lg_cmp_gt, lg_cmp_lt, lg_cmp_eq, Classical.not_not, SHm hS, SHr hS]
  refine ⟨by omega, m_isThing (by omega) ?_⟩
  simp only [D_X12_put, N_X12_put, vcS, vcC, vcI, gtF, ptF, inS, inV, fv0, fv1, fv2, fv3, fw0, fw1, lg_0, lg_1, lg_2, lg_3, lg_4, lg_5, lg_6, lg_7, lg_8, lg_9, lg_10, lg_11, lg_12, lg_13, lg_14, lsq_0, lsl_0, lsq_1, lsl_1, lsq_2, lsl_2, lsq_3, lsl_3, lsq_4, lsl_4, lsq_5, lsl_5, lsq_6, lsl_6, lsq_7, lsl_7, lsq_8, lsl_8, lsq_9, lsl_9, lsq_10, lsl_10, lsq_11, lsl_11, lsq_12, lsl_12, lsq_13, lsl_13, lsq_14, lsl_14, tk_0, tk_1, tk_2, tk_3, tk_4, tk_5, tk_6, tk_7, tk_8, cs_n, cs_i, cs_l, cs_r, cs_u, nl, rt_s, rt_n, CST1, Nat.reduceAdd, Nat.reduceLeDiff, va_rf, rtOk, Bool.false_eq_true, Bool.true_eq_false, if_false, if_true, ite_true, ite_false, true_and, and_true, eq_self, ne_eq, not_false_eq_true, not_true_eq_false, false_implies, true_implies, and_self, reduceCtorEq, Nat.reduceBEq, Bool.or_false, Bool.false_or, Bool.or_true, Bool.true_or, if1_0, if1_1, if1_01, one_01, zer_01, lg_cmp_ge, lg_cmp_le, lg_cmp_gt, lg_cmp_lt, lg_cmp_eq, Classical.not_not, SHm hS, SHr hS, hxt]
  refine ⟨fun q => absurd (show 0 ≤ (x : Int) ∧ (x : Int) ≤ 9999 by omega) q, fun _ => ⟨by omega, m_in ?_⟩⟩
  simp only [D_X12_put, N_X12_put, vcS, vcC, vcI, gtF, ptF, inS, inV, fv0, fv1, fv2, fv3, fw0, fw1, lg_0, lg_1, lg_2, lg_3, lg_4, lg_5, lg_6, lg_7, lg_8, lg_9, lg_10, lg_11, lg_12, lg_13, lg_14, lsq_0, lsl_0, lsq_1, lsl_1, lsq_2, lsl_2, lsq_3, lsl_3, lsq_4, lsl_4, lsq_5, lsl_5, lsq_6, lsl_6, lsq_7, lsl_7, lsq_8, lsl_8, lsq_9, lsl_9, lsq_10, lsl_10, lsq_11, lsl_11, lsq_12, lsl_12, lsq_13, lsl_13, lsq_14, lsl_14, tk_0, tk_1, tk_2, tk_3, tk_4, tk_5, tk_6, tk_7, tk_8, cs_n, cs_i, cs_l, cs_r, cs_u, nl, rt_s, rt_n, CST1, Nat.reduceAdd, Nat.reduceLeDiff, va_rf, rtOk, Bool.false_eq_true, Bool.true_eq_false, if_false, if_true, ite_true, ite_false, true_and, and_true, eq_self, ne_eq, not_false_eq_true, not_true_eq_false, false_implies, true_implies, and_self, reduceCtorEq, Nat.reduceBEq, Bool.or_false, Bool.false_or, Bool.or_true, Bool.true_or, if1_0, if1_1, if1_01, one_01, zer_01, lg_cmp_ge, lg_cmp_le, lg_cmp_gt, lg_cmp_lt, lg_cmp_eq, Classical.not_not, SHm hS, SHr hS, LIT2, toL]
  refine ⟨fun _ => ⟨by omega, m_thingOf hS hN hN2 ?_⟩, fun q => absurd hw q⟩
  cases hf : fdN (sg 73) (nI x) N 0 with
  | some j =>
    rw [hf] at hk1
    obtain ⟨-, j1, j2⟩ := (fdN_spec (f := sg 73) (x := nI x) N 0).1 j hf
    have ej : (nI j).toNatClampNeg = j := nI_clamp (by omega)
    have nj : (0 : Int32) ≤ nI j := nI_pos' (by omega)
    rw [fdR_some hf]
    simp only [D_X12_put, N_X12_put, vcS, vcC, vcI, gtF, ptF, inS, inV, fv0, fv1, fv2, fv3, fw0, fw1, lg_0, lg_1, lg_2, lg_3, lg_4, lg_5, lg_6, lg_7, lg_8, lg_9, lg_10, lg_11, lg_12, lg_13, lg_14, lsq_0, lsl_0, lsq_1, lsl_1, lsq_2, lsl_2, lsq_3, lsl_3, lsq_4, lsl_4, lsq_5, lsl_5, lsq_6, lsl_6, lsq_7, lsl_7, lsq_8, lsl_8, lsq_9, lsl_9, lsq_10, lsl_10, lsq_11, lsl_11, lsq_12, lsl_12, lsq_13, lsl_13, lsq_14, lsl_14, tk_0, tk_1, tk_2, tk_3, tk_4, tk_5, tk_6, tk_7, tk_8, cs_n, cs_i, cs_l, cs_r, cs_u, nl, rt_s, rt_n, CST1, Nat.reduceAdd, Nat.reduceLeDiff, va_rf, rtOk, Bool.false_eq_true, Bool.true_eq_false, if_false, if_true, ite_true, ite_false, true_and, and_true, eq_self, ne_eq, not_false_eq_true, not_true_eq_false, false_implies, true_implies, and_self, reduceCtorEq, Nat.reduceBEq, Bool.or_false, Bool.false_or, Bool.or_true, Bool.true_or, if1_0, if1_1, if1_01, one_01, zer_01, lg_cmp_ge, lg_cmp_le, lg_cmp_gt, lg_cmp_lt, lg_cmp_eq, Classical.not_not, SHm hS, SHr hS, nj, ej]
    have vj : vp_in (nI j) 200 := vp_in_nI (by omega) (by decide)
    refine ⟨vj, vj, tail _ _ (hk1 trivial)⟩
  | none =>
    rw [hf] at hk1 hk2
    have eN : (nI N).toNatClampNeg = N := nI_clamp (by omega)
    have c9 : ¬ (0 : Int32) ≤ -9 := by decide
    have r1 : ∀ (s : aS) (k : Nat) (y : Int32), s2 s 74 k y 48 33 = s 48 33 := fun s k y => by rw [s2_far (by decide)]
    have r3 : ∀ (s : aS) (k : Nat) (y : Int32), s2 s 73 k y 48 33 = s 48 33 := fun s k y => by rw [s2_far (by decide)]
    have r2 : ∀ (s : aS) (y z : Int32), s2 (s2 s 74 N y) 48 33 z 74 N = y := fun s y z => by rw [s2_far (by decide), s2_own]
    rw [fdR_none hf]
    simp only [D_X12_put, N_X12_put, vcS, vcC, vcI, gtF, ptF, inS, inV, fv0, fv1, fv2, fv3, fw0, fw1, lg_0, lg_1, lg_2, lg_3, lg_4, lg_5, lg_6, lg_7, lg_8, lg_9, lg_10, lg_11, lg_12, lg_13, lg_14, lsq_0, lsl_0, lsq_1, lsl_1, lsq_2, lsl_2, lsq_3, lsl_3, lsq_4, lsl_4, lsq_5, lsl_5, lsq_6, lsl_6, lsq_7, lsl_7, lsq_8, lsl_8, lsq_9, lsl_9, lsq_10, lsl_10, lsq_11, lsl_11, lsq_12, lsl_12, lsq_13, lsl_13, lsq_14, lsl_14, tk_0, tk_1, tk_2, tk_3, tk_4, tk_5, tk_6, tk_7, tk_8, cs_n, cs_i, cs_l, cs_r, cs_u, nl, rt_s, rt_n, CST1, Nat.reduceAdd, Nat.reduceLeDiff, va_rf, rtOk, Bool.false_eq_true, Bool.true_eq_false, if_false, if_true, ite_true, ite_false, true_and, and_true, eq_self, ne_eq, not_false_eq_true, not_true_eq_false, false_implies, true_implies, and_self, reduceCtorEq, Nat.reduceBEq, Bool.or_false, Bool.false_or, Bool.or_true, Bool.true_or, if1_0, if1_1, if1_01, one_01, zer_01, lg_cmp_ge, lg_cmp_le, lg_cmp_gt, lg_cmp_lt, lg_cmp_eq, Classical.not_not, SHm hS, SHr hS, hN, eN, r1, r2, r3, nI_1, c9]
    have vN : ¬ nI N = 200 → vp_in (nI N) 200 := fun q => vp_in_nI (by
      rcases Nat.lt_or_ge N 200 with z | z
      · exact z
      · exact absurd (show nI N = 200 by rw [show N = 200 by omega]; rfl) q) (by decide)
    refine ⟨fun q => ⟨vN q, vN q, vN q, vN q, tail _ _ ?_⟩, fun q => hk2 ?_⟩
    · have q9 : ¬ 200 ≤ N := fun z => q (by rw [show N = 200 by omega]; rfl)
      have e9 : s2 (s2 (s2 (s2 sg 73 N (nI x)) 74 N 0) 48 33 (nI (N + 1))) 74 N (0 + w) = s2 (s2 (s2 sg 73 N (nI x)) 48 33 (nI (N + 1))) 74 N (0 + w) := by
        funext b j
        by_cases hb : b = 74
        · subst hb
          by_cases hj : j = N
          · subst hj; rw [s2_own, s2_own]
          · simp only [s2, va_up, upd, Nat.reduceEqDiff, if_true, if_false, if_neg hj]
        · rw [s2_ne hb, s2_ne hb]
          by_cases hb2 : b = 48
          · subst hb2
            rw [s2_eq, s2_eq, s2_ne (by decide)]
          · rw [s2_ne hb2, s2_ne hb2, s2_ne hb]
      rw [e9]
      have := hk1 q9
      rw [putS, if_neg q9] at this
      exact this
    · intro z
      have := congrArg Int32.toInt q
      rw [nI_toInt (by omega)] at this
      simp [LIT1] at this
      simp only [putB] at z
      omega
set_option maxHeartbeats 4000000 in
set_option maxRecDepth 100000 in
theorem c_put {x : Nat} {w : Int32} (hS : Sh mu ro) (hd : 3 ≤ d) (hx : x ≤ 9999) (hw : 1 ≤ w.toInt ∧ w.toInt ≤ 99) (hN : sg 26 3 = nI N) (hN2 : N ≤ 200) (h0 : N < 200 → sg 29 N = 0) (hk1 : putB N (fdN (sg 28) (nI x) N 0) → K (some (.int (tdF (putS sg 27 28 29 26 3 N x w (fdN (sg 28) (nI x) N 0) 27) x))) (putS sg 27 28 29 26 3 N x w (fdN (sg 28) (nI x) N 0))) (hk2 : ¬ putB N (fdN (sg 28) (nI x) N 0) → K (some (.int (-4))) sg) : aCall d 116 [.ref 0, .int (nI x), .int w] n mu ro sg K := by
  have hxt : (nI x).toInt = x := nI_toInt (by omega)
  refine aCall_start (mL := 3) (cc := cX11_put) (o := 11) (ret := (some .int)) 0 (by decide) (by decide +kernel) rfl rfl rfl rfl (Nat.le_of_ble_eq_true rfl) (fun G hC hG => ?_)
  simp only [exL, List.cons_append, List.nil_append, rp_0, rp_1, rp_2, rp_3, rp_4, rp_5, rp_6, rp_7, rp_8, rp_9, rp_10, rp_11, List.append_nil]
  refine hG (fun _ => false) 60 _ _ _ _ (Nat.le_of_ble_eq_true rfl) ?_
  simp only [D_X11_put, N_X11_put, vcS, vcC, vcI, gtF, ptF, inS, inV, fv0, fv1, fv2, fv3, fw0, fw1, lg_0, lg_1, lg_2, lg_3, lg_4, lg_5, lg_6, lg_7, lg_8, lg_9, lg_10, lg_11, lg_12, lg_13, lg_14, lsq_0, lsl_0, lsq_1, lsl_1, lsq_2, lsl_2, lsq_3, lsl_3, lsq_4, lsl_4, lsq_5, lsl_5, lsq_6, lsl_6, lsq_7, lsl_7, lsq_8, lsl_8, lsq_9, lsl_9, lsq_10, lsl_10, lsq_11, lsl_11, lsq_12, lsl_12, lsq_13, lsl_13, lsq_14, lsl_14, tk_0, tk_1, tk_2, tk_3, tk_4, tk_5, tk_6, tk_7, tk_8, cs_n, cs_i, cs_l, cs_r, cs_u, nl, rt_s, rt_n, CST1, Nat.reduceAdd, Nat.reduceLeDiff, va_rf, rtOk, Bool.false_eq_true, Bool.true_eq_false, if_false, if_true, ite_true, ite_false, true_and, and_true, eq_self, ne_eq, not_false_eq_true, not_true_eq_false, false_implies, true_implies, and_self, reduceCtorEq, Nat.reduceBEq, Bool.or_false, Bool.false_or, Bool.or_true, Bool.true_or, if1_0, if1_1, if1_01, one_01, zer_01, lg_cmp_ge, lg_cmp_le, lg_cmp_gt, lg_cmp_lt, lg_cmp_eq, Classical.not_not, SHm hS, SHr hS]
  refine ⟨by omega, c_isThing (by omega) ?_⟩
  simp only [D_X11_put, N_X11_put, vcS, vcC, vcI, gtF, ptF, inS, inV, fv0, fv1, fv2, fv3, fw0, fw1, lg_0, lg_1, lg_2, lg_3, lg_4, lg_5, lg_6, lg_7, lg_8, lg_9, lg_10, lg_11, lg_12, lg_13, lg_14, lsq_0, lsl_0, lsq_1, lsl_1, lsq_2, lsl_2, lsq_3, lsl_3, lsq_4, lsl_4, lsq_5, lsl_5, lsq_6, lsl_6, lsq_7, lsl_7, lsq_8, lsl_8, lsq_9, lsl_9, lsq_10, lsl_10, lsq_11, lsl_11, lsq_12, lsl_12, lsq_13, lsl_13, lsq_14, lsl_14, tk_0, tk_1, tk_2, tk_3, tk_4, tk_5, tk_6, tk_7, tk_8, cs_n, cs_i, cs_l, cs_r, cs_u, nl, rt_s, rt_n, CST1, Nat.reduceAdd, Nat.reduceLeDiff, va_rf, rtOk, Bool.false_eq_true, Bool.true_eq_false, if_false, if_true, ite_true, ite_false, true_and, and_true, eq_self, ne_eq, not_false_eq_true, not_true_eq_false, false_implies, true_implies, and_self, reduceCtorEq, Nat.reduceBEq, Bool.or_false, Bool.false_or, Bool.or_true, Bool.true_or, if1_0, if1_1, if1_01, one_01, zer_01, lg_cmp_ge, lg_cmp_le, lg_cmp_gt, lg_cmp_lt, lg_cmp_eq, Classical.not_not, SHm hS, SHr hS, hxt]
  refine ⟨fun q => absurd (show 0 ≤ (x : Int) ∧ (x : Int) ≤ 9999 by omega) q, fun _ => ⟨by omega, c_isIn ?_⟩⟩
  simp only [D_X11_put, N_X11_put, vcS, vcC, vcI, gtF, ptF, inS, inV, fv0, fv1, fv2, fv3, fw0, fw1, lg_0, lg_1, lg_2, lg_3, lg_4, lg_5, lg_6, lg_7, lg_8, lg_9, lg_10, lg_11, lg_12, lg_13, lg_14, lsq_0, lsl_0, lsq_1, lsl_1, lsq_2, lsl_2, lsq_3, lsl_3, lsq_4, lsl_4, lsq_5, lsl_5, lsq_6, lsl_6, lsq_7, lsl_7, lsq_8, lsl_8, lsq_9, lsl_9, lsq_10, lsl_10, lsq_11, lsl_11, lsq_12, lsl_12, lsq_13, lsl_13, lsq_14, lsl_14, tk_0, tk_1, tk_2, tk_3, tk_4, tk_5, tk_6, tk_7, tk_8, cs_n, cs_i, cs_l, cs_r, cs_u, nl, rt_s, rt_n, CST1, Nat.reduceAdd, Nat.reduceLeDiff, va_rf, rtOk, Bool.false_eq_true, Bool.true_eq_false, if_false, if_true, ite_true, ite_false, true_and, and_true, eq_self, ne_eq, not_false_eq_true, not_true_eq_false, false_implies, true_implies, and_self, reduceCtorEq, Nat.reduceBEq, Bool.or_false, Bool.false_or, Bool.or_true, Bool.true_or, if1_0, if1_1, if1_01, one_01, zer_01, lg_cmp_ge, lg_cmp_le, lg_cmp_gt, lg_cmp_lt, lg_cmp_eq, Classical.not_not, SHm hS, SHr hS, LIT1]
  have c10 : ¬ (1 : Int32) = 0 := by decide
  refine ⟨fun _ => ⟨by omega, c_take hS (by omega) hx hN hN2 h0 (fun q => ?_) (fun q => ?_)⟩, fun q => absurd hw q⟩
  · simp only [D_X11_put, N_X11_put, vcS, vcC, vcI, gtF, ptF, inS, inV, fv0, fv1, fv2, fv3, fw0, fw1, lg_0, lg_1, lg_2, lg_3, lg_4, lg_5, lg_6, lg_7, lg_8, lg_9, lg_10, lg_11, lg_12, lg_13, lg_14, lsq_0, lsl_0, lsq_1, lsl_1, lsq_2, lsl_2, lsq_3, lsl_3, lsq_4, lsl_4, lsq_5, lsl_5, lsq_6, lsl_6, lsq_7, lsl_7, lsq_8, lsl_8, lsq_9, lsl_9, lsq_10, lsl_10, lsq_11, lsl_11, lsq_12, lsl_12, lsq_13, lsl_13, lsq_14, lsl_14, tk_0, tk_1, tk_2, tk_3, tk_4, tk_5, tk_6, tk_7, tk_8, cs_n, cs_i, cs_l, cs_r, cs_u, nl, rt_s, rt_n, CST1, Nat.reduceAdd, Nat.reduceLeDiff, va_rf, rtOk, Bool.false_eq_true, Bool.true_eq_false, if_false, if_true, ite_true, ite_false, true_and, and_true, eq_self, ne_eq, not_false_eq_true, not_true_eq_false, false_implies, true_implies, and_self, reduceCtorEq, Nat.reduceBEq, Bool.or_false, Bool.false_or, Bool.or_true, Bool.true_or, if1_0, if1_1, if1_01, one_01, zer_01, lg_cmp_ge, lg_cmp_le, lg_cmp_gt, lg_cmp_lt, lg_cmp_eq, Classical.not_not, SHm hS, SHr hS, c10]
    refine ⟨by omega, c_toldOf hS (by omega) hx ?_⟩
    simp only [D_X11_put, N_X11_put, vcS, vcC, vcI, gtF, ptF, inS, inV, fv0, fv1, fv2, fv3, fw0, fw1, lg_0, lg_1, lg_2, lg_3, lg_4, lg_5, lg_6, lg_7, lg_8, lg_9, lg_10, lg_11, lg_12, lg_13, lg_14, lsq_0, lsl_0, lsq_1, lsl_1, lsq_2, lsl_2, lsq_3, lsl_3, lsq_4, lsl_4, lsq_5, lsl_5, lsq_6, lsl_6, lsq_7, lsl_7, lsq_8, lsl_8, lsq_9, lsl_9, lsq_10, lsl_10, lsq_11, lsl_11, lsq_12, lsl_12, lsq_13, lsl_13, lsq_14, lsl_14, tk_0, tk_1, tk_2, tk_3, tk_4, tk_5, tk_6, tk_7, tk_8, cs_n, cs_i, cs_l, cs_r, cs_u, nl, rt_s, rt_n, CST1, Nat.reduceAdd, Nat.reduceLeDiff, va_rf, rtOk, Bool.false_eq_true, Bool.true_eq_false, if_false, if_true, ite_true, ite_false, true_and, and_true, eq_self, ne_eq, not_false_eq_true, not_true_eq_false, false_implies, true_implies, and_self, reduceCtorEq, Nat.reduceBEq, Bool.or_false, Bool.false_or, Bool.or_true, Bool.true_or, if1_0, if1_1, if1_01, one_01, zer_01, lg_cmp_ge, lg_cmp_le, lg_cmp_gt, lg_cmp_lt, lg_cmp_eq, Classical.not_not, SHm hS, SHr hS]
    exact hk1 q
  · simp only [D_X11_put, N_X11_put, vcS, vcC, vcI, gtF, ptF, inS, inV, fv0, fv1, fv2, fv3, fw0, fw1, lg_0, lg_1, lg_2, lg_3, lg_4, lg_5, lg_6, lg_7, lg_8, lg_9, lg_10, lg_11, lg_12, lg_13, lg_14, lsq_0, lsl_0, lsq_1, lsl_1, lsq_2, lsl_2, lsq_3, lsl_3, lsq_4, lsl_4, lsq_5, lsl_5, lsq_6, lsl_6, lsq_7, lsl_7, lsq_8, lsl_8, lsq_9, lsl_9, lsq_10, lsl_10, lsq_11, lsl_11, lsq_12, lsl_12, lsq_13, lsl_13, lsq_14, lsl_14, tk_0, tk_1, tk_2, tk_3, tk_4, tk_5, tk_6, tk_7, tk_8, cs_n, cs_i, cs_l, cs_r, cs_u, nl, rt_s, rt_n, CST1, Nat.reduceAdd, Nat.reduceLeDiff, va_rf, rtOk, Bool.false_eq_true, Bool.true_eq_false, if_false, if_true, ite_true, ite_false, true_and, and_true, eq_self, ne_eq, not_false_eq_true, not_true_eq_false, false_implies, true_implies, and_self, reduceCtorEq, Nat.reduceBEq, Bool.or_false, Bool.false_or, Bool.or_true, Bool.true_or, if1_0, if1_1, if1_01, one_01, zer_01, lg_cmp_ge, lg_cmp_le, lg_cmp_gt, lg_cmp_lt, lg_cmp_eq, Classical.not_not, SHm hS, SHr hS]
    exact hk2 q
set_option maxHeartbeats 4000000 in
set_option maxRecDepth 100000 in
theorem c_putBad {x w : Int32} (hS : Sh mu ro) (hd : 3 ≤ d) (hb : ¬ ((0 ≤ x.toInt ∧ x.toInt ≤ 9999) ∧ 1 ≤ w.toInt ∧ w.toInt ≤ 99)) (hk : K (some (.int (-2))) sg) : aCall d 116 [.ref 0, .int x, .int w] n mu ro sg K := by
  refine aCall_start (mL := 3) (cc := cX11_put) (o := 11) (ret := (some .int)) 0 (by decide) (by decide +kernel) rfl rfl rfl rfl (Nat.le_of_ble_eq_true rfl) (fun G hC hG => ?_)
  simp only [exL, List.cons_append, List.nil_append, rp_0, rp_1, rp_2, rp_3, rp_4, rp_5, rp_6, rp_7, rp_8, rp_9, rp_10, rp_11, List.append_nil]
  refine hG (fun _ => false) 60 _ _ _ _ (Nat.le_of_ble_eq_true rfl) ?_
  simp only [D_X11_put, N_X11_put, vcS, vcC, vcI, gtF, ptF, inS, inV, fv0, fv1, fv2, fv3, fw0, fw1, lg_0, lg_1, lg_2, lg_3, lg_4, lg_5, lg_6, lg_7, lg_8, lg_9, lg_10, lg_11, lg_12, lg_13, lg_14, lsq_0, lsl_0, lsq_1, lsl_1, lsq_2, lsl_2, lsq_3, lsl_3, lsq_4, lsl_4, lsq_5, lsl_5, lsq_6, lsl_6, lsq_7, lsl_7, lsq_8, lsl_8, lsq_9, lsl_9, lsq_10, lsl_10, lsq_11, lsl_11, lsq_12, lsl_12, lsq_13, lsl_13, lsq_14, lsl_14, tk_0, tk_1, tk_2, tk_3, tk_4, tk_5, tk_6, tk_7, tk_8, cs_n, cs_i, cs_l, cs_r, cs_u, nl, rt_s, rt_n, CST1, Nat.reduceAdd, Nat.reduceLeDiff, va_rf, rtOk, Bool.false_eq_true, Bool.true_eq_false, if_false, if_true, ite_true, ite_false, true_and, and_true, eq_self, ne_eq, not_false_eq_true, not_true_eq_false, false_implies, true_implies, and_self, reduceCtorEq, Nat.reduceBEq, Bool.or_false, Bool.false_or, Bool.or_true, Bool.true_or, if1_0, if1_1, if1_01, one_01, zer_01, lg_cmp_ge, lg_cmp_le, lg_cmp_gt, lg_cmp_lt, lg_cmp_eq, Classical.not_not, SHm hS, SHr hS]
  repeat' (first | (with_reducible assumption) | (refine vp_in_iff.mpr ?_; ((try simp only [i_le, i_lt, i_eq, l_le, l_lt, l_eq, i_ne, l_ne, toL, l_add, l_sub1, LIT1, LIT2, Int.reduceNeg, ge_iff_le, gt_iff_lt] at *); omega)) | (refine And.intro ?_ ?_) | (omega) | (refine c_isThing (by omega) ?_; simp only [D_X11_put, N_X11_put, vcS, vcC, vcI, gtF, ptF, inS, inV, fv0, fv1, fv2, fv3, fw0, fw1, lg_0, lg_1, lg_2, lg_3, lg_4, lg_5, lg_6, lg_7, lg_8, lg_9, lg_10, lg_11, lg_12, lg_13, lg_14, lsq_0, lsl_0, lsq_1, lsl_1, lsq_2, lsl_2, lsq_3, lsl_3, lsq_4, lsl_4, lsq_5, lsl_5, lsq_6, lsl_6, lsq_7, lsl_7, lsq_8, lsl_8, lsq_9, lsl_9, lsq_10, lsl_10, lsq_11, lsl_11, lsq_12, lsl_12, lsq_13, lsl_13, lsq_14, lsl_14, tk_0, tk_1, tk_2, tk_3, tk_4, tk_5, tk_6, tk_7, tk_8, cs_n, cs_i, cs_l, cs_r, cs_u, nl, rt_s, rt_n, CST1, Nat.reduceAdd, Nat.reduceLeDiff, va_rf, rtOk, Bool.false_eq_true, Bool.true_eq_false, if_false, if_true, ite_true, ite_false, true_and, and_true, eq_self, ne_eq, not_false_eq_true, not_true_eq_false, false_implies, true_implies, and_self, reduceCtorEq, Nat.reduceBEq, Bool.or_false, Bool.false_or, Bool.or_true, Bool.true_or, if1_0, if1_1, if1_01, one_01, zer_01, lg_cmp_ge, lg_cmp_le, lg_cmp_gt, lg_cmp_lt, lg_cmp_eq, Classical.not_not, SHm hS, SHr hS, LIT1]) | (refine c_isIn ?_; simp only [D_X11_put, N_X11_put, vcS, vcC, vcI, gtF, ptF, inS, inV, fv0, fv1, fv2, fv3, fw0, fw1, lg_0, lg_1, lg_2, lg_3, lg_4, lg_5, lg_6, lg_7, lg_8, lg_9, lg_10, lg_11, lg_12, lg_13, lg_14, lsq_0, lsl_0, lsq_1, lsl_1, lsq_2, lsl_2, lsq_3, lsl_3, lsq_4, lsl_4, lsq_5, lsl_5, lsq_6, lsl_6, lsq_7, lsl_7, lsq_8, lsl_8, lsq_9, lsl_9, lsq_10, lsl_10, lsq_11, lsl_11, lsq_12, lsl_12, lsq_13, lsl_13, lsq_14, lsl_14, tk_0, tk_1, tk_2, tk_3, tk_4, tk_5, tk_6, tk_7, tk_8, cs_n, cs_i, cs_l, cs_r, cs_u, nl, rt_s, rt_n, CST1, Nat.reduceAdd, Nat.reduceLeDiff, va_rf, rtOk, Bool.false_eq_true, Bool.true_eq_false, if_false, if_true, ite_true, ite_false, true_and, and_true, eq_self, ne_eq, not_false_eq_true, not_true_eq_false, false_implies, true_implies, and_self, reduceCtorEq, Nat.reduceBEq, Bool.or_false, Bool.false_or, Bool.or_true, Bool.true_or, if1_0, if1_1, if1_01, one_01, zer_01, lg_cmp_ge, lg_cmp_le, lg_cmp_gt, lg_cmp_lt, lg_cmp_eq, Classical.not_not, SHm hS, SHr hS, LIT1]) | (with_reducible intro _))
  all_goals first | exact hk | (exfalso; ((try simp only [i_le, i_lt, i_eq, l_le, l_lt, l_eq, i_ne, l_ne, toL, l_add, l_sub1, LIT1, LIT2, Int.reduceNeg, ge_iff_le, gt_iff_lt] at *); omega))
set_option maxHeartbeats 4000000 in
set_option maxRecDepth 100000 in
theorem m_putBad {x w : Int32} (hS : Sh mu ro) (hd : 3 ≤ d) (hb : ¬ ((0 ≤ x.toInt ∧ x.toInt ≤ 9999) ∧ 1 ≤ w.toInt ∧ w.toInt ≤ 99)) (hk : K (some (.int (-2))) sg) : aCall d 210 [.ref 48, .int x, .int w] n mu ro sg K := by
  refine aCall_start (mL := 5) (cc := cX12_put) (o := 12) (ret := (some .int)) 2 (by decide) (by decide +kernel) rfl rfl rfl rfl (Nat.le_of_ble_eq_true rfl) (fun G hC hG => ?_)
  simp only [exL, List.cons_append, List.nil_append, rp_0, rp_1, rp_2, rp_3, rp_4, rp_5, rp_6, rp_7, rp_8, rp_9, rp_10, rp_11, List.append_nil]
  refine hG (fun q => q == 22) 60 _ _ _ _ (Nat.le_of_ble_eq_true rfl) ?_
  simp only [D_X12_put, N_X12_put, vcS, vcC, vcI, gtF, ptF, inS, inV, fv0, fv1, fv2, fv3, fw0, fw1, lg_0, lg_1, lg_2, lg_3, lg_4, lg_5, lg_6, lg_7, lg_8, lg_9, lg_10, lg_11, lg_12, lg_13, lg_14, lsq_0, lsl_0, lsq_1, lsl_1, lsq_2, lsl_2, lsq_3, lsl_3, lsq_4, lsl_4, lsq_5, lsl_5, lsq_6, lsl_6, lsq_7, lsl_7, lsq_8, lsl_8, lsq_9, lsl_9, lsq_10, lsl_10, lsq_11, lsl_11, lsq_12, lsl_12, lsq_13, lsl_13, lsq_14, lsl_14, tk_0, tk_1, tk_2, tk_3, tk_4, tk_5, tk_6, tk_7, tk_8, cs_n, cs_i, cs_l, cs_r, cs_u, nl, rt_s, rt_n, CST1, Nat.reduceAdd, Nat.reduceLeDiff, va_rf, rtOk, Bool.false_eq_true, Bool.true_eq_false, if_false, if_true, ite_true, ite_false, true_and, and_true, eq_self, ne_eq, not_false_eq_true, not_true_eq_false, false_implies, true_implies, and_self, reduceCtorEq, Nat.reduceBEq, Bool.or_false, Bool.false_or, Bool.or_true, Bool.true_or, if1_0, if1_1, if1_01, one_01, zer_01, lg_cmp_ge, lg_cmp_le, lg_cmp_gt, lg_cmp_lt, lg_cmp_eq, Classical.not_not, SHm hS, SHr hS]
  repeat' (first | (with_reducible assumption) | (refine vp_in_iff.mpr ?_; ((try simp only [i_le, i_lt, i_eq, l_le, l_lt, l_eq, i_ne, l_ne, toL, l_add, l_sub1, LIT1, LIT2, Int.reduceNeg, ge_iff_le, gt_iff_lt] at *); omega)) | (refine And.intro ?_ ?_) | (omega) | (refine m_isThing (by omega) ?_; simp only [D_X12_put, N_X12_put, vcS, vcC, vcI, gtF, ptF, inS, inV, fv0, fv1, fv2, fv3, fw0, fw1, lg_0, lg_1, lg_2, lg_3, lg_4, lg_5, lg_6, lg_7, lg_8, lg_9, lg_10, lg_11, lg_12, lg_13, lg_14, lsq_0, lsl_0, lsq_1, lsl_1, lsq_2, lsl_2, lsq_3, lsl_3, lsq_4, lsl_4, lsq_5, lsl_5, lsq_6, lsl_6, lsq_7, lsl_7, lsq_8, lsl_8, lsq_9, lsl_9, lsq_10, lsl_10, lsq_11, lsl_11, lsq_12, lsl_12, lsq_13, lsl_13, lsq_14, lsl_14, tk_0, tk_1, tk_2, tk_3, tk_4, tk_5, tk_6, tk_7, tk_8, cs_n, cs_i, cs_l, cs_r, cs_u, nl, rt_s, rt_n, CST1, Nat.reduceAdd, Nat.reduceLeDiff, va_rf, rtOk, Bool.false_eq_true, Bool.true_eq_false, if_false, if_true, ite_true, ite_false, true_and, and_true, eq_self, ne_eq, not_false_eq_true, not_true_eq_false, false_implies, true_implies, and_self, reduceCtorEq, Nat.reduceBEq, Bool.or_false, Bool.false_or, Bool.or_true, Bool.true_or, if1_0, if1_1, if1_01, one_01, zer_01, lg_cmp_ge, lg_cmp_le, lg_cmp_gt, lg_cmp_lt, lg_cmp_eq, Classical.not_not, SHm hS, SHr hS, LIT2, toL]) | (refine m_in ?_; simp only [D_X12_put, N_X12_put, vcS, vcC, vcI, gtF, ptF, inS, inV, fv0, fv1, fv2, fv3, fw0, fw1, lg_0, lg_1, lg_2, lg_3, lg_4, lg_5, lg_6, lg_7, lg_8, lg_9, lg_10, lg_11, lg_12, lg_13, lg_14, lsq_0, lsl_0, lsq_1, lsl_1, lsq_2, lsl_2, lsq_3, lsl_3, lsq_4, lsl_4, lsq_5, lsl_5, lsq_6, lsl_6, lsq_7, lsl_7, lsq_8, lsl_8, lsq_9, lsl_9, lsq_10, lsl_10, lsq_11, lsl_11, lsq_12, lsl_12, lsq_13, lsl_13, lsq_14, lsl_14, tk_0, tk_1, tk_2, tk_3, tk_4, tk_5, tk_6, tk_7, tk_8, cs_n, cs_i, cs_l, cs_r, cs_u, nl, rt_s, rt_n, CST1, Nat.reduceAdd, Nat.reduceLeDiff, va_rf, rtOk, Bool.false_eq_true, Bool.true_eq_false, if_false, if_true, ite_true, ite_false, true_and, and_true, eq_self, ne_eq, not_false_eq_true, not_true_eq_false, false_implies, true_implies, and_self, reduceCtorEq, Nat.reduceBEq, Bool.or_false, Bool.false_or, Bool.or_true, Bool.true_or, if1_0, if1_1, if1_01, one_01, zer_01, lg_cmp_ge, lg_cmp_le, lg_cmp_gt, lg_cmp_lt, lg_cmp_eq, Classical.not_not, SHm hS, SHr hS, LIT2, toL]) | (with_reducible intro _))
  all_goals first | exact hk | (exfalso; ((try simp only [i_le, i_lt, i_eq, l_le, l_lt, l_eq, i_ne, l_ne, toL, l_add, l_sub1, LIT1, LIT2, Int.reduceNeg, ge_iff_le, gt_iff_lt] at *); omega))
theorem I_sk.fr {s s' : aS} {N : Nat} (h : I_sk s N) (hf : ∀ a k, reg a k = 8 → s' a k = s a k) : I_sk s' N := by
  have e1 : ∀ j, s' 27 j = s 27 j := fun j => hf 27 j rfl
  have e2 : ∀ j, s' 28 j = s 28 j := fun j => hf 28 j rfl
  have e3 : ∀ j, s' 29 j = s 29 j := fun j => hf 29 j rfl
  have e4 : ∀ j, s' 72 j = s 72 j := fun j => hf 72 j rfl
  have e5 : ∀ j, s' 73 j = s 73 j := fun j => hf 73 j rfl
  have e6 : ∀ j, s' 74 j = s 74 j := fun j => hf 74 j rfl
  have e7 : s' 26 3 = s 26 3 := hf 26 3 rfl
  have e8 : s' 48 33 = s 48 33 := hf 48 33 rfl
  unfold I_sk at *
  simp only [e1, e2, e3, e4, e5, e6, e7, e8]
  exact h
set_option maxHeartbeats 4000000 in
set_option maxRecDepth 100000 in
theorem b_put {x w : Int32} (hS : Sh mu ro) (hd : 3 ≤ d) (hI : I_sk sg N) (hk : ∀ r sg2 N2, I_sk sg2 N2 → Fr [8] sg sg2 → K r sg2) : aCall d 116 [.ref 0, .int x, .int w] n mu ro sg (fun r1 sg1 => aCall d 210 [.ref 48, .int x, .int w] n mu ro sg1 (fun r2 sg2 => r1 = r2 ∧ K r1 sg2)) := by
  obtain ⟨i1, ⟨i2, i3⟩, i4, i5, i6⟩ := id hI
  by_cases hok : (0 ≤ x.toInt ∧ x.toInt ≤ 9999) ∧ 1 ≤ w.toInt ∧ w.toInt ≤ 99
  · obtain ⟨y, hy, rfl⟩ := i_of (N := 9999) hok.1.1 hok.1.2 (by decide)
    have ef : fdN (sg 73) (nI y) N 0 = fdN (sg 28) (nI y) N 0 := fdN_congr N 0 (fun j _ h2 => ((i5 j (by omega)).1).symm)
    have cg := upR_congr (x := y) (w := w) i1
    have hyb : i_bw (nI y) 0 9999 := hok.1
    refine c_put hS hd hy hok.2 i2 i4 (fun h => i6 N (by omega) h) (fun q => ?_) (fun q => ?_)
    · have e73 : putS sg 27 28 29 26 3 N y w (fdN (sg 28) (nI y) N 0) 73 = sg 73 := by
        cases fdN (sg 28) (nI y) N 0 <;> simp only [putS] <;> (try split) <;> first | rfl | (simp [nm3, s2, va_up])
      have e48 : putS sg 27 28 29 26 3 N y w (fdN (sg 28) (nI y) N 0) 48 33 = nI N := by
        rw [← i3]
        cases fdN (sg 28) (nI y) N 0 <;> simp only [putS] <;> (try split) <;> first | rfl | (simp [nm3, s2, va_up])
      refine m_put (N := N) hS hd hy hok.2 e48 i4 (fun q2 => ?_) (fun q2 => ?_)
      · rw [e73, ef] at q2 ⊢
        cases hf : fdN (sg 28) (nI y) N 0 with
        | some j =>
          obtain ⟨-, j1, j2⟩ := (fdN_spec (f := sg 28) (x := nI y) N 0).1 j hf
          refine ⟨?_, hk _ _ N ⟨?_, ⟨?_, ?_⟩, i4, fun i hi => ?_, fun i h1 h2 => ?_⟩ ?_⟩
          · simp only [putS, nm3, s2, va_up, Nat.reduceEqDiff, if_true, if_false]
            rw [tdF_congr cg]
          · intro i hi
            simp only [putS, nm3, s2, va_up, Nat.reduceEqDiff, if_true, if_false]
            exact cg i hi
          · simp only [putS, nm3, s2, va_up, Nat.reduceEqDiff, if_true, if_false]; exact i2
          · simp only [putS, nm3, s2, va_up, Nat.reduceEqDiff, if_true, if_false]; exact i3
          · simp only [putS, nm3, s2, va_up, Nat.reduceEqDiff, if_true, if_false]
            obtain ⟨g1, g2, g3⟩ := i5 i hi
            refine ⟨g1, g2, ?_⟩
            by_cases hij : i = j
            · subst hij; simp [upd, g3]
            · simp [upd, hij, g3]
          · simp only [putS, nm3, s2, va_up, upd, Nat.reduceEqDiff, if_true, if_false, if_neg (show ¬ i = j by omega)]
            exact i6 i h1 h2
          · simp only [putS]
            refine Fr.nm3 (m := 8) ?_ (fun _ => rfl) (by decide)
            refine Fr.putq (m := 8) ?_ rfl (by decide)
            refine Fr.nm3 (m := 8) ?_ (fun _ => rfl) (by decide)
            ((repeat (refine Fr.putq (m := 8) ?_ rfl (by decide))); exact Fr.rfl)
        | none =>
          rw [hf] at q
          have q9 : ¬ 200 ≤ N := q
          refine ⟨?_, hk _ _ (N + 1) ⟨?_, ⟨?_, ?_⟩, by omega, fun i hi => ?_, fun i h1 h2 => ?_⟩ ?_⟩
          · simp only [putS, if_neg q9, nm3, s2, va_up, Nat.reduceEqDiff, if_true, if_false]
            rw [tdF_congr cg]
          · intro i hi
            simp only [putS, if_neg q9, nm3, s2, va_up, Nat.reduceEqDiff, if_true, if_false]
            exact cg i hi
          · simp only [putS, if_neg q9, nm3, s2, va_up, upd, Nat.reduceEqDiff, if_true, if_false]
          · simp only [putS, if_neg q9, nm3, s2, va_up, upd, Nat.reduceEqDiff, if_true, if_false]
          · simp only [putS, if_neg q9, nm3, s2, va_up, upd, Nat.reduceEqDiff, if_true, if_false]
            by_cases hij : i = N
            · subst hij
              simp only [if_true]
              exact ⟨trivial, hyb, trivial⟩
            · simp only [if_neg hij]
              exact i5 i (by omega)
          · simp only [putS, if_neg q9, nm3, s2, va_up, upd, Nat.reduceEqDiff, if_true, if_false, if_neg (show ¬ i = N by omega)]
            exact i6 i (by omega) h2
          · simp only [putS, if_neg q9]
            refine Fr.nm3 (m := 8) ?_ (fun _ => rfl) (by decide)
            (repeat (refine Fr.putq (m := 8) ?_ rfl (by decide)))
            refine Fr.nm3 (m := 8) ?_ (fun _ => rfl) (by decide)
            ((repeat (refine Fr.putq (m := 8) ?_ rfl (by decide))); exact Fr.rfl)
      · rw [e73, ef] at q2
        exact absurd q q2
    · refine m_put (N := N) hS hd hy hok.2 i3 i4 (fun q2 => absurd (by rw [ef] at q2; exact q2) q) (fun q2 => ⟨rfl, hk _ _ N hI Fr.rfl⟩)
  · exact c_putBad hS hd hok (m_putBad hS hd hok ⟨rfl, hk _ _ N hI Fr.rfl⟩)
end H20
