/-! part 14: counts and groups -/
def regL : List Nat := [0, 1, 1, 1, 1, 1, 0, 0, 0, 2, 2, 2, 2, 3, 3, 3, 3, 3, 3, 3, 3, 0, 0, 7, 7, 7, 8, 8, 8, 8, 9, 9, 9, 9, 0, 10, 10, 10, 10, 11, 11, 11, 11, 11, 11, 11, 11, 11, 0, 1, 1, 1, 1, 1, 0, 3, 3, 3, 3, 3, 3, 3, 3, 3, 3, 3, 3, 3, 3, 0, 7, 7, 8, 8, 8, 9, 9, 0, 0, 2, 2, 2, 10, 10, 10, 11, 11, 11, 0]
/-- which part of the state a place belongs to; 0: nobody's -/
def reg (a k : Nat) : Nat :=
  if a = 0 then (if k = 11 ∨ k = 12 then 3 else if k = 13 then 12 else if k = 14 then 13 else 0)
  else if a = 1 then (if k = 7 then 0 else 1)
  else if a = 48 then (if k = 0 then 13 else if k = 4 ∨ k = 7 then 1 else if k = 9 ∨ k = 18 ∨ k = 21 then 3 else if k = 33 then 8 else if k = 36 ∨ k = 39 then 9 else if k = 42 then 2 else if k = 47 then 10 else if k = 54 then 12 else 0)
  else regL.getD a 3
/-- nothing of the state but these parts has changed -/
def Fr (ms : List Nat) (s s' : aS) : Prop := ∀ a k, reg a k ∉ ms → reg a k ≠ 0 → s' a k = s a k
theorem Fr.rfl {ms : List Nat} {s : aS} : Fr ms s s := fun _ _ _ _ => Eq.refl _
theorem Fr.tr {ms : List Nat} {s s' s'' : aS} (h : Fr ms s s') (h2 : Fr ms s' s'') : Fr ms s s'' := fun a k q1 q2 => (h2 a k q1 q2).trans (h a k q1 q2)
theorem Fr.put {ms : List Nat} {s s' : aS} {a k : Nat} {x : Int32} (h : Fr ms s s') (hr : reg a k ∈ ms ∨ reg a k = 0) : Fr ms s (s2 s' a k x) := by
  intro b j q1 q2
  by_cases hb : b = a
  · subst hb
    by_cases hj : j = k
    · subst hj
      rcases hr with hr | hr
      · exact absurd hr q1
      · exact absurd hr q2
    · rw [s2_eq]
      simp only [upd, if_neg hj]
      exact h b j q1 q2
  · rw [s2_ne hb]
    exact h b j q1 q2
theorem Fr.putq {ms : List Nat} {s s' : aS} {a k m : Nat} {x : Int32} (h : Fr ms s s') (hr : reg a k = m) (hm : m ∈ ms) : Fr ms s (s2 s' a k x) := h.put (Or.inl (hr ▸ hm))
theorem I_hr.fr {s s' : aS} (h : I_hr s) (hf : ∀ a k, reg a k = 7 → s' a k = s a k) : I_hr s' := by
  have e1 : ∀ j, s' 24 j = s 24 j := fun j => hf 24 j rfl
  have e2 : ∀ j, s' 25 j = s 25 j := fun j => hf 25 j rfl
  have e3 : ∀ j, s' 70 j = s 70 j := fun j => hf 70 j rfl
  have e4 : ∀ j, s' 71 j = s 71 j := fun j => hf 71 j rfl
  unfold I_hr at *
  simp only [e1, e2, e3, e4]
  exact h
section H14
variable {d n : Nat} {mu : aM} {ro : aR} {sg : aS} {K : Option Value → aS → Prop}
/-- an int in a range is a count -/
theorem i_of {x : Int32} {N : Nat} (h0 : 0 ≤ x.toInt) (h1 : x.toInt ≤ N) (hN : N < 2147483648) : ∃ j : Nat, j ≤ N ∧ x = nI j := by
  refine ⟨x.toInt.toNat, by omega, i_eq.mpr ?_⟩
  rw [nI_toInt (by omega)]
  omega
set_option maxHeartbeats 4000000 in
set_option maxRecDepth 100000 in
theorem c_change {m h : Nat} {w : Int32} (hS : Sh mu ro) (hm : m < 10) (hh : h < 14) (hk : K (some (.int (sg 24 (14 * m + h)))) (s2 sg 24 (14 * m + h) w)) : aCall d 11 [.ref 23, .int (nI m), .int (nI h), .int w] n mu ro sg K := by
  refine aCall_start (mL := 5) (cc := cX2_change) (o := 2) (ret := (some .int)) 1 (by decide) (by decide +kernel) rfl rfl rfl rfl (Nat.le_of_ble_eq_true rfl) (fun G hC hG => ?_)
  simp only [exL, List.cons_append, List.nil_append, rp_0, rp_1, rp_2, rp_3, rp_4, rp_5, rp_6, rp_7, rp_8, rp_9, rp_10, rp_11, List.append_nil]
  refine hG (fun _ => false) 60 _ _ _ _ (Nat.le_of_ble_eq_true rfl) ?_
  have e0 : nI m * 14 + nI h = nI (14 * m + h) := by rw [show (14 : Int32) = nI 14 from rfl, pk_mul, nI_add, Nat.mul_comm]
  have e1 : (nI (14 * m + h)).toNatClampNeg = 14 * m + h := nI_clamp (by omega)
  have e2 : vp_in (nI (14 * m + h)) 140 := vp_in_nI (by omega) (by decide)
  simp only [D_X2_change, vcS, vcC, vcI, gtF, ptF, inS, inV, fv0, fv1, fv2, fv3, fw0, fw1, lg_0, lg_1, lg_2, lg_3, lg_4, lg_5, lg_6, lg_7, lg_8, lg_9, lg_10, lg_11, lg_12, lg_13, lg_14, lsq_0, lsl_0, lsq_1, lsl_1, lsq_2, lsl_2, lsq_3, lsl_3, lsq_4, lsl_4, lsq_5, lsl_5, lsq_6, lsl_6, lsq_7, lsl_7, lsq_8, lsl_8, lsq_9, lsl_9, lsq_10, lsl_10, lsq_11, lsl_11, lsq_12, lsl_12, lsq_13, lsl_13, lsq_14, lsl_14, tk_0, tk_1, tk_2, tk_3, tk_4, tk_5, tk_6, tk_7, tk_8, cs_n, cs_i, cs_l, cs_r, cs_u, nl, rt_s, rt_n, CST1, Nat.reduceAdd, Nat.reduceLeDiff, va_rf, rtOk, Bool.false_eq_true, Bool.true_eq_false, if_false, if_true, ite_true, ite_false, true_and, and_true, eq_self, ne_eq, not_false_eq_true, not_true_eq_false, false_implies, true_implies, and_self, reduceCtorEq, Nat.reduceBEq, Bool.or_false, Bool.false_or, Bool.or_true, Bool.true_or, if1_0, if1_1, if1_01, one_01, zer_01, lg_cmp_ge, lg_cmp_le, lg_cmp_gt, lg_cmp_lt, lg_cmp_eq, Classical.not_not, SHm hS, SHr hS, e0, e1]
  exact ⟨e2, e2, hk⟩
def cntR (s : aS) (A : Nat) (m h w : Int32) : Int32 := if ¬ (0 ≤ m.toInt ∧ m.toInt ≤ 9) then -1 else if ¬ ((0 ≤ h.toInt ∧ h.toInt ≤ 13) ∧ 0 ≤ w.toInt ∧ w.toInt ≤ 999) then -2 else s A (14 * m.toNatClampNeg + h.toNatClampNeg)
def cntS (s : aS) (A : Nat) (m h w : Int32) : aS := if (0 ≤ m.toInt ∧ m.toInt ≤ 9) ∧ (0 ≤ h.toInt ∧ h.toInt ≤ 13) ∧ 0 ≤ w.toInt ∧ w.toInt ≤ 999 then s2 s A (14 * m.toNatClampNeg + h.toNatClampNeg) w else s
set_option maxHeartbeats 4000000 in
set_option maxRecDepth 100000 in
theorem c_count {m h w : Int32} (hS : Sh mu ro) (hd : 3 ≤ d) (hk : K (some (.int (cntR sg 24 m h w))) (cntS sg 24 m h w)) : aCall d 112 [.ref 0, .int m, .int h, .int w] n mu ro sg K := by
  refine aCall_start (mL := 4) (cc := cX11_count) (o := 11) (ret := (some .int)) 0 (by decide) (by decide +kernel) rfl rfl rfl rfl (Nat.le_of_ble_eq_true rfl) (fun G hC hG => ?_)
  simp only [exL, List.cons_append, List.nil_append, rp_0, rp_1, rp_2, rp_3, rp_4, rp_5, rp_6, rp_7, rp_8, rp_9, rp_10, rp_11, List.append_nil]
  refine hG (fun _ => false) 60 _ _ _ _ (Nat.le_of_ble_eq_true rfl) ?_
  simp only [D_X11_count, N_X11_count, vcS, vcC, vcI, gtF, ptF, inS, inV, fv0, fv1, fv2, fv3, fw0, fw1, lg_0, lg_1, lg_2, lg_3, lg_4, lg_5, lg_6, lg_7, lg_8, lg_9, lg_10, lg_11, lg_12, lg_13, lg_14, lsq_0, lsl_0, lsq_1, lsl_1, lsq_2, lsl_2, lsq_3, lsl_3, lsq_4, lsl_4, lsq_5, lsl_5, lsq_6, lsl_6, lsq_7, lsl_7, lsq_8, lsl_8, lsq_9, lsl_9, lsq_10, lsl_10, lsq_11, lsl_11, lsq_12, lsl_12, lsq_13, lsl_13, lsq_14, lsl_14, tk_0, tk_1, tk_2, tk_3, tk_4, tk_5, tk_6, tk_7, tk_8, cs_n, cs_i, cs_l, cs_r, cs_u, nl, rt_s, rt_n, CST1, Nat.reduceAdd, Nat.reduceLeDiff, va_rf, rtOk, Bool.false_eq_true, Bool.true_eq_false, if_false, if_true, ite_true, ite_false, true_and, and_true, eq_self, ne_eq, not_false_eq_true, not_true_eq_false, false_implies, true_implies, and_self, reduceCtorEq, Nat.reduceBEq, Bool.or_false, Bool.false_or, Bool.or_true, Bool.true_or, if1_0, if1_1, if1_01, one_01, zer_01, lg_cmp_ge, lg_cmp_le, lg_cmp_gt, lg_cmp_lt, lg_cmp_eq, Classical.not_not, SHm hS, SHr hS]
  by_cases hok : (0 ≤ m.toInt ∧ m.toInt ≤ 9) ∧ (0 ≤ h.toInt ∧ h.toInt ≤ 13)
  · obtain ⟨m', hm', rfl⟩ := i_of (N := 9) hok.1.1 hok.1.2 (by decide)
    obtain ⟨h', hh', rfl⟩ := i_of (N := 13) hok.2.1 hok.2.2 (by decide)
    have e1 : (nI m').toInt = m' := nI_toInt (by omega)
    have e2 : (nI h').toInt = h' := nI_toInt (by omega)
    have e3 : (nI m').toNatClampNeg = m' := nI_clamp (by omega)
    have e4 : (nI h').toNatClampNeg = h' := nI_clamp (by omega)
    rw [cntR, cntS, e3, e4] at hk
    repeat' (first | (with_reducible assumption) | (refine vp_in_iff.mpr ?_; ((try simp only [i_le, i_lt, i_eq, l_le, l_lt, l_eq, i_ne, l_ne, toL, l_add, l_sub1, LIT1, LIT2, Int.reduceNeg, ge_iff_le, gt_iff_lt] at *); omega)) | (refine And.intro ?_ ?_) | (omega) | (refine c_isMachine (by omega) ?_; simp only [D_X11_count, N_X11_count, vcS, vcC, vcI, gtF, ptF, inS, inV, fv0, fv1, fv2, fv3, fw0, fw1, lg_0, lg_1, lg_2, lg_3, lg_4, lg_5, lg_6, lg_7, lg_8, lg_9, lg_10, lg_11, lg_12, lg_13, lg_14, lsq_0, lsl_0, lsq_1, lsl_1, lsq_2, lsl_2, lsq_3, lsl_3, lsq_4, lsl_4, lsq_5, lsl_5, lsq_6, lsl_6, lsq_7, lsl_7, lsq_8, lsl_8, lsq_9, lsl_9, lsq_10, lsl_10, lsq_11, lsl_11, lsq_12, lsl_12, lsq_13, lsl_13, lsq_14, lsl_14, tk_0, tk_1, tk_2, tk_3, tk_4, tk_5, tk_6, tk_7, tk_8, cs_n, cs_i, cs_l, cs_r, cs_u, nl, rt_s, rt_n, CST1, Nat.reduceAdd, Nat.reduceLeDiff, va_rf, rtOk, Bool.false_eq_true, Bool.true_eq_false, if_false, if_true, ite_true, ite_false, true_and, and_true, eq_self, ne_eq, not_false_eq_true, not_true_eq_false, false_implies, true_implies, and_self, reduceCtorEq, Nat.reduceBEq, Bool.or_false, Bool.false_or, Bool.or_true, Bool.true_or, if1_0, if1_1, if1_01, one_01, zer_01, lg_cmp_ge, lg_cmp_le, lg_cmp_gt, lg_cmp_lt, lg_cmp_eq, Classical.not_not, SHm hS, SHr hS, LIT1]) | (refine c_isIn ?_; simp only [D_X11_count, N_X11_count, vcS, vcC, vcI, gtF, ptF, inS, inV, fv0, fv1, fv2, fv3, fw0, fw1, lg_0, lg_1, lg_2, lg_3, lg_4, lg_5, lg_6, lg_7, lg_8, lg_9, lg_10, lg_11, lg_12, lg_13, lg_14, lsq_0, lsl_0, lsq_1, lsl_1, lsq_2, lsl_2, lsq_3, lsl_3, lsq_4, lsl_4, lsq_5, lsl_5, lsq_6, lsl_6, lsq_7, lsl_7, lsq_8, lsl_8, lsq_9, lsl_9, lsq_10, lsl_10, lsq_11, lsl_11, lsq_12, lsl_12, lsq_13, lsl_13, lsq_14, lsl_14, tk_0, tk_1, tk_2, tk_3, tk_4, tk_5, tk_6, tk_7, tk_8, cs_n, cs_i, cs_l, cs_r, cs_u, nl, rt_s, rt_n, CST1, Nat.reduceAdd, Nat.reduceLeDiff, va_rf, rtOk, Bool.false_eq_true, Bool.true_eq_false, if_false, if_true, ite_true, ite_false, true_and, and_true, eq_self, ne_eq, not_false_eq_true, not_true_eq_false, false_implies, true_implies, and_self, reduceCtorEq, Nat.reduceBEq, Bool.or_false, Bool.false_or, Bool.or_true, Bool.true_or, if1_0, if1_1, if1_01, one_01, zer_01, lg_cmp_ge, lg_cmp_le, lg_cmp_gt, lg_cmp_lt, lg_cmp_eq, Classical.not_not, SHm hS, SHr hS, LIT1]) | (refine c_change hS (by omega) (by omega) ?_; simp only [D_X11_count, N_X11_count, vcS, vcC, vcI, gtF, ptF, inS, inV, fv0, fv1, fv2, fv3, fw0, fw1, lg_0, lg_1, lg_2, lg_3, lg_4, lg_5, lg_6, lg_7, lg_8, lg_9, lg_10, lg_11, lg_12, lg_13, lg_14, lsq_0, lsl_0, lsq_1, lsl_1, lsq_2, lsl_2, lsq_3, lsl_3, lsq_4, lsl_4, lsq_5, lsl_5, lsq_6, lsl_6, lsq_7, lsl_7, lsq_8, lsl_8, lsq_9, lsl_9, lsq_10, lsl_10, lsq_11, lsl_11, lsq_12, lsl_12, lsq_13, lsl_13, lsq_14, lsl_14, tk_0, tk_1, tk_2, tk_3, tk_4, tk_5, tk_6, tk_7, tk_8, cs_n, cs_i, cs_l, cs_r, cs_u, nl, rt_s, rt_n, CST1, Nat.reduceAdd, Nat.reduceLeDiff, va_rf, rtOk, Bool.false_eq_true, Bool.true_eq_false, if_false, if_true, ite_true, ite_false, true_and, and_true, eq_self, ne_eq, not_false_eq_true, not_true_eq_false, false_implies, true_implies, and_self, reduceCtorEq, Nat.reduceBEq, Bool.or_false, Bool.false_or, Bool.or_true, Bool.true_or, if1_0, if1_1, if1_01, one_01, zer_01, lg_cmp_ge, lg_cmp_le, lg_cmp_gt, lg_cmp_lt, lg_cmp_eq, Classical.not_not, SHm hS, SHr hS, LIT1]) | (with_reducible intro _))
    all_goals first | ((refine Eq.mp (congr (congrArg K ?_) ?_) hk) <;> (clear hk; (try unfold cntR); (try unfold cntS); (repeat' split) <;> first | rfl | (exfalso; ((try simp only [i_le, i_lt, i_eq, l_le, l_lt, l_eq, i_ne, l_ne, toL, l_add, l_sub1, LIT1, LIT2, Int.reduceNeg, ge_iff_le, gt_iff_lt] at *); omega))))
  · repeat' (first | (with_reducible assumption) | (refine vp_in_iff.mpr ?_; ((try simp only [i_le, i_lt, i_eq, l_le, l_lt, l_eq, i_ne, l_ne, toL, l_add, l_sub1, LIT1, LIT2, Int.reduceNeg, ge_iff_le, gt_iff_lt] at *); omega)) | (refine And.intro ?_ ?_) | (omega) | (refine c_isMachine (by omega) ?_; simp only [D_X11_count, N_X11_count, vcS, vcC, vcI, gtF, ptF, inS, inV, fv0, fv1, fv2, fv3, fw0, fw1, lg_0, lg_1, lg_2, lg_3, lg_4, lg_5, lg_6, lg_7, lg_8, lg_9, lg_10, lg_11, lg_12, lg_13, lg_14, lsq_0, lsl_0, lsq_1, lsl_1, lsq_2, lsl_2, lsq_3, lsl_3, lsq_4, lsl_4, lsq_5, lsl_5, lsq_6, lsl_6, lsq_7, lsl_7, lsq_8, lsl_8, lsq_9, lsl_9, lsq_10, lsl_10, lsq_11, lsl_11, lsq_12, lsl_12, lsq_13, lsl_13, lsq_14, lsl_14, tk_0, tk_1, tk_2, tk_3, tk_4, tk_5, tk_6, tk_7, tk_8, cs_n, cs_i, cs_l, cs_r, cs_u, nl, rt_s, rt_n, CST1, Nat.reduceAdd, Nat.reduceLeDiff, va_rf, rtOk, Bool.false_eq_true, Bool.true_eq_false, if_false, if_true, ite_true, ite_false, true_and, and_true, eq_self, ne_eq, not_false_eq_true, not_true_eq_false, false_implies, true_implies, and_self, reduceCtorEq, Nat.reduceBEq, Bool.or_false, Bool.false_or, Bool.or_true, Bool.true_or, if1_0, if1_1, if1_01, one_01, zer_01, lg_cmp_ge, lg_cmp_le, lg_cmp_gt, lg_cmp_lt, lg_cmp_eq, Classical.not_not, SHm hS, SHr hS, LIT1]) | (refine c_isIn ?_; simp only [D_X11_count, N_X11_count, vcS, vcC, vcI, gtF, ptF, inS, inV, fv0, fv1, fv2, fv3, fw0, fw1, lg_0, lg_1, lg_2, lg_3, lg_4, lg_5, lg_6, lg_7, lg_8, lg_9, lg_10, lg_11, lg_12, lg_13, lg_14, lsq_0, lsl_0, lsq_1, lsl_1, lsq_2, lsl_2, lsq_3, lsl_3, lsq_4, lsl_4, lsq_5, lsl_5, lsq_6, lsl_6, lsq_7, lsl_7, lsq_8, lsl_8, lsq_9, lsl_9, lsq_10, lsl_10, lsq_11, lsl_11, lsq_12, lsl_12, lsq_13, lsl_13, lsq_14, lsl_14, tk_0, tk_1, tk_2, tk_3, tk_4, tk_5, tk_6, tk_7, tk_8, cs_n, cs_i, cs_l, cs_r, cs_u, nl, rt_s, rt_n, CST1, Nat.reduceAdd, Nat.reduceLeDiff, va_rf, rtOk, Bool.false_eq_true, Bool.true_eq_false, if_false, if_true, ite_true, ite_false, true_and, and_true, eq_self, ne_eq, not_false_eq_true, not_true_eq_false, false_implies, true_implies, and_self, reduceCtorEq, Nat.reduceBEq, Bool.or_false, Bool.false_or, Bool.or_true, Bool.true_or, if1_0, if1_1, if1_01, one_01, zer_01, lg_cmp_ge, lg_cmp_le, lg_cmp_gt, lg_cmp_lt, lg_cmp_eq, Classical.not_not, SHm hS, SHr hS, LIT1]) | (with_reducible intro _))
    all_goals first | ((refine Eq.mp (congr (congrArg K ?_) ?_) hk) <;> (clear hk; (try unfold cntR); (try unfold cntS); (repeat' split) <;> first | rfl | (exfalso; ((try simp only [i_le, i_lt, i_eq, l_le, l_lt, l_eq, i_ne, l_ne, toL, l_add, l_sub1, LIT1, LIT2, Int.reduceNeg, ge_iff_le, gt_iff_lt] at *); omega)))) | (exfalso; ((try simp only [i_le, i_lt, i_eq, l_le, l_lt, l_eq, i_ne, l_ne, toL, l_add, l_sub1, LIT1, LIT2, Int.reduceNeg, ge_iff_le, gt_iff_lt] at *); omega))
set_option maxHeartbeats 4000000 in
set_option maxRecDepth 100000 in
theorem m_count {m h w : Int32} (hS : Sh mu ro) (hd : 3 ≤ d) (hk : K (some (.int (cntR sg 70 m h w))) (cntS sg 70 m h w)) : aCall d 201 [.ref 48, .int m, .int h, .int w] n mu ro sg K := by
  refine aCall_start (mL := 5) (cc := cX12_count) (o := 12) (ret := (some .int)) 1 (by decide) (by decide +kernel) rfl rfl rfl rfl (Nat.le_of_ble_eq_true rfl) (fun G hC hG => ?_)
  simp only [exL, List.cons_append, List.nil_append, rp_0, rp_1, rp_2, rp_3, rp_4, rp_5, rp_6, rp_7, rp_8, rp_9, rp_10, rp_11, List.append_nil]
  refine hG (fun _ => false) 60 _ _ _ _ (Nat.le_of_ble_eq_true rfl) ?_
  simp only [D_X12_count, vcS, vcC, vcI, gtF, ptF, inS, inV, fv0, fv1, fv2, fv3, fw0, fw1, lg_0, lg_1, lg_2, lg_3, lg_4, lg_5, lg_6, lg_7, lg_8, lg_9, lg_10, lg_11, lg_12, lg_13, lg_14, lsq_0, lsl_0, lsq_1, lsl_1, lsq_2, lsl_2, lsq_3, lsl_3, lsq_4, lsl_4, lsq_5, lsl_5, lsq_6, lsl_6, lsq_7, lsl_7, lsq_8, lsl_8, lsq_9, lsl_9, lsq_10, lsl_10, lsq_11, lsl_11, lsq_12, lsl_12, lsq_13, lsl_13, lsq_14, lsl_14, tk_0, tk_1, tk_2, tk_3, tk_4, tk_5, tk_6, tk_7, tk_8, cs_n, cs_i, cs_l, cs_r, cs_u, nl, rt_s, rt_n, CST1, Nat.reduceAdd, Nat.reduceLeDiff, va_rf, rtOk, Bool.false_eq_true, Bool.true_eq_false, if_false, if_true, ite_true, ite_false, true_and, and_true, eq_self, ne_eq, not_false_eq_true, not_true_eq_false, false_implies, true_implies, and_self, reduceCtorEq, Nat.reduceBEq, Bool.or_false, Bool.false_or, Bool.or_true, Bool.true_or, if1_0, if1_1, if1_01, one_01, zer_01, lg_cmp_ge, lg_cmp_le, lg_cmp_gt, lg_cmp_lt, lg_cmp_eq, Classical.not_not, SHm hS, SHr hS]
  by_cases hok : (0 ≤ m.toInt ∧ m.toInt ≤ 9) ∧ (0 ≤ h.toInt ∧ h.toInt ≤ 13)
  · obtain ⟨m', hm', rfl⟩ := i_of (N := 9) hok.1.1 hok.1.2 (by decide)
    obtain ⟨h', hh', rfl⟩ := i_of (N := 13) hok.2.1 hok.2.2 (by decide)
    have e1 : (nI m').toInt = m' := nI_toInt (by omega)
    have e2 : (nI h').toInt = h' := nI_toInt (by omega)
    have e3 : (nI m').toNatClampNeg = m' := nI_clamp (by omega)
    have e4 : (nI h').toNatClampNeg = h' := nI_clamp (by omega)
    rw [cntR, cntS, e3, e4] at hk
    have e5 : 14 * nI m' + nI h' = nI (14 * m' + h') := by rw [show (14 : Int32) = nI 14 from rfl, pk_mul, nI_add]
    have e6 : (nI (14 * m' + h')).toNatClampNeg = 14 * m' + h' := nI_clamp (by omega)
    have e7 : vp_in (nI (14 * m' + h')) 140 := vp_in_nI (by omega) (by decide)
    repeat' (first | (with_reducible assumption) | (refine vp_in_iff.mpr ?_; ((try simp only [i_le, i_lt, i_eq, l_le, l_lt, l_eq, i_ne, l_ne, toL, l_add, l_sub1, LIT1, LIT2, Int.reduceNeg, ge_iff_le, gt_iff_lt] at *); omega)) | (refine And.intro ?_ ?_) | (omega) | (refine m_noMachine (by omega) ?_; simp only [D_X12_count, vcS, vcC, vcI, gtF, ptF, inS, inV, fv0, fv1, fv2, fv3, fw0, fw1, lg_0, lg_1, lg_2, lg_3, lg_4, lg_5, lg_6, lg_7, lg_8, lg_9, lg_10, lg_11, lg_12, lg_13, lg_14, lsq_0, lsl_0, lsq_1, lsl_1, lsq_2, lsl_2, lsq_3, lsl_3, lsq_4, lsl_4, lsq_5, lsl_5, lsq_6, lsl_6, lsq_7, lsl_7, lsq_8, lsl_8, lsq_9, lsl_9, lsq_10, lsl_10, lsq_11, lsl_11, lsq_12, lsl_12, lsq_13, lsl_13, lsq_14, lsl_14, tk_0, tk_1, tk_2, tk_3, tk_4, tk_5, tk_6, tk_7, tk_8, cs_n, cs_i, cs_l, cs_r, cs_u, nl, rt_s, rt_n, CST1, Nat.reduceAdd, Nat.reduceLeDiff, va_rf, rtOk, Bool.false_eq_true, Bool.true_eq_false, if_false, if_true, ite_true, ite_false, true_and, and_true, eq_self, ne_eq, not_false_eq_true, not_true_eq_false, false_implies, true_implies, and_self, reduceCtorEq, Nat.reduceBEq, Bool.or_false, Bool.false_or, Bool.or_true, Bool.true_or, if1_0, if1_1, if1_01, one_01, zer_01, lg_cmp_ge, lg_cmp_le, lg_cmp_gt, lg_cmp_lt, lg_cmp_eq, Classical.not_not, SHm hS, SHr hS, LIT2, toL, e5, e6]) | (refine m_in ?_; simp only [D_X12_count, vcS, vcC, vcI, gtF, ptF, inS, inV, fv0, fv1, fv2, fv3, fw0, fw1, lg_0, lg_1, lg_2, lg_3, lg_4, lg_5, lg_6, lg_7, lg_8, lg_9, lg_10, lg_11, lg_12, lg_13, lg_14, lsq_0, lsl_0, lsq_1, lsl_1, lsq_2, lsl_2, lsq_3, lsl_3, lsq_4, lsl_4, lsq_5, lsl_5, lsq_6, lsl_6, lsq_7, lsl_7, lsq_8, lsl_8, lsq_9, lsl_9, lsq_10, lsl_10, lsq_11, lsl_11, lsq_12, lsl_12, lsq_13, lsl_13, lsq_14, lsl_14, tk_0, tk_1, tk_2, tk_3, tk_4, tk_5, tk_6, tk_7, tk_8, cs_n, cs_i, cs_l, cs_r, cs_u, nl, rt_s, rt_n, CST1, Nat.reduceAdd, Nat.reduceLeDiff, va_rf, rtOk, Bool.false_eq_true, Bool.true_eq_false, if_false, if_true, ite_true, ite_false, true_and, and_true, eq_self, ne_eq, not_false_eq_true, not_true_eq_false, false_implies, true_implies, and_self, reduceCtorEq, Nat.reduceBEq, Bool.or_false, Bool.false_or, Bool.or_true, Bool.true_or, if1_0, if1_1, if1_01, one_01, zer_01, lg_cmp_ge, lg_cmp_le, lg_cmp_gt, lg_cmp_lt, lg_cmp_eq, Classical.not_not, SHm hS, SHr hS, LIT2, toL, e5, e6]) | (with_reducible intro _))
    all_goals first | ((refine Eq.mp (congr (congrArg K ?_) ?_) hk) <;> (clear hk; (try unfold cntR); (try unfold cntS); (repeat' split) <;> first | rfl | (exfalso; ((try simp only [i_le, i_lt, i_eq, l_le, l_lt, l_eq, i_ne, l_ne, toL, l_add, l_sub1, LIT1, LIT2, Int.reduceNeg, ge_iff_le, gt_iff_lt] at *); omega))))
  · repeat' (first | (with_reducible assumption) | (refine vp_in_iff.mpr ?_; ((try simp only [i_le, i_lt, i_eq, l_le, l_lt, l_eq, i_ne, l_ne, toL, l_add, l_sub1, LIT1, LIT2, Int.reduceNeg, ge_iff_le, gt_iff_lt] at *); omega)) | (refine And.intro ?_ ?_) | (omega) | (refine m_noMachine (by omega) ?_; simp only [D_X12_count, vcS, vcC, vcI, gtF, ptF, inS, inV, fv0, fv1, fv2, fv3, fw0, fw1, lg_0, lg_1, lg_2, lg_3, lg_4, lg_5, lg_6, lg_7, lg_8, lg_9, lg_10, lg_11, lg_12, lg_13, lg_14, lsq_0, lsl_0, lsq_1, lsl_1, lsq_2, lsl_2, lsq_3, lsl_3, lsq_4, lsl_4, lsq_5, lsl_5, lsq_6, lsl_6, lsq_7, lsl_7, lsq_8, lsl_8, lsq_9, lsl_9, lsq_10, lsl_10, lsq_11, lsl_11, lsq_12, lsl_12, lsq_13, lsl_13, lsq_14, lsl_14, tk_0, tk_1, tk_2, tk_3, tk_4, tk_5, tk_6, tk_7, tk_8, cs_n, cs_i, cs_l, cs_r, cs_u, nl, rt_s, rt_n, CST1, Nat.reduceAdd, Nat.reduceLeDiff, va_rf, rtOk, Bool.false_eq_true, Bool.true_eq_false, if_false, if_true, ite_true, ite_false, true_and, and_true, eq_self, ne_eq, not_false_eq_true, not_true_eq_false, false_implies, true_implies, and_self, reduceCtorEq, Nat.reduceBEq, Bool.or_false, Bool.false_or, Bool.or_true, Bool.true_or, if1_0, if1_1, if1_01, one_01, zer_01, lg_cmp_ge, lg_cmp_le, lg_cmp_gt, lg_cmp_lt, lg_cmp_eq, Classical.not_not, SHm hS, SHr hS, LIT2, toL]) | (refine m_in ?_; simp only [D_X12_count, vcS, vcC, vcI, gtF, ptF, inS, inV, fv0, fv1, fv2, fv3, fw0, fw1, lg_0, lg_1, lg_2, lg_3, lg_4, lg_5, lg_6, lg_7, lg_8, lg_9, lg_10, lg_11, lg_12, lg_13, lg_14, lsq_0, lsl_0, lsq_1, lsl_1, lsq_2, lsl_2, lsq_3, lsl_3, lsq_4, lsl_4, lsq_5, lsl_5, lsq_6, lsl_6, lsq_7, lsl_7, lsq_8, lsl_8, lsq_9, lsl_9, lsq_10, lsl_10, lsq_11, lsl_11, lsq_12, lsl_12, lsq_13, lsl_13, lsq_14, lsl_14, tk_0, tk_1, tk_2, tk_3, tk_4, tk_5, tk_6, tk_7, tk_8, cs_n, cs_i, cs_l, cs_r, cs_u, nl, rt_s, rt_n, CST1, Nat.reduceAdd, Nat.reduceLeDiff, va_rf, rtOk, Bool.false_eq_true, Bool.true_eq_false, if_false, if_true, ite_true, ite_false, true_and, and_true, eq_self, ne_eq, not_false_eq_true, not_true_eq_false, false_implies, true_implies, and_self, reduceCtorEq, Nat.reduceBEq, Bool.or_false, Bool.false_or, Bool.or_true, Bool.true_or, if1_0, if1_1, if1_01, one_01, zer_01, lg_cmp_ge, lg_cmp_le, lg_cmp_gt, lg_cmp_lt, lg_cmp_eq, Classical.not_not, SHm hS, SHr hS, LIT2, toL]) | (with_reducible intro _))
    all_goals first | ((refine Eq.mp (congr (congrArg K ?_) ?_) hk) <;> (clear hk; (try unfold cntR); (try unfold cntS); (repeat' split) <;> first | rfl | (exfalso; ((try simp only [i_le, i_lt, i_eq, l_le, l_lt, l_eq, i_ne, l_ne, toL, l_add, l_sub1, LIT1, LIT2, Int.reduceNeg, ge_iff_le, gt_iff_lt] at *); omega)))) | (exfalso; ((try simp only [i_le, i_lt, i_eq, l_le, l_lt, l_eq, i_ne, l_ne, toL, l_add, l_sub1, LIT1, LIT2, Int.reduceNeg, ge_iff_le, gt_iff_lt] at *); omega))
set_option maxHeartbeats 4000000 in
set_option maxRecDepth 100000 in
theorem b_count {m h w : Int32} (hS : Sh mu ro) (hd : 3 ≤ d) (hI : I_hr sg) (hk : ∀ r sg2, I_hr sg2 → Fr [7] sg sg2 → K r sg2) : aCall d 112 [.ref 0, .int m, .int h, .int w] n mu ro sg (fun r1 sg1 => aCall d 201 [.ref 48, .int m, .int h, .int w] n mu ro sg1 (fun r2 sg2 => r1 = r2 ∧ K r1 sg2)) := by
  refine c_count hS hd (m_count hS hd ?_)
  by_cases hok : (0 ≤ m.toInt ∧ m.toInt ≤ 9) ∧ (0 ≤ h.toInt ∧ h.toInt ≤ 13) ∧ 0 ≤ w.toInt ∧ w.toInt ≤ 999
  · have hj : 14 * m.toNatClampNeg + h.toNatClampNeg < 140 := by
      obtain ⟨m', q1, q2, q3⟩ := i_nat (k := m) (N := 10) (by omega) (by omega)
      obtain ⟨h', q4, q5, q6⟩ := i_nat (k := h) (N := 14) (by omega) (by omega)
      omega
    rw [cntS, if_pos hok, cntS, if_pos hok, cntR, cntR, if_neg (not_not_intro hok.1), if_neg (not_not_intro hok.1), if_neg (not_not_intro hok.2), if_neg (not_not_intro hok.2)]
    generalize 14 * m.toNatClampNeg + h.toNatClampNeg = j at hj ⊢
    refine ⟨?_, hk _ _ ⟨fun i hi => ?_, fun i hi => ?_⟩ ?_⟩
    · rw [s2_ne (by decide), (hI.1 j hj).1]
    · rw [s2_ne (by decide), s2_eq, s2_eq, s2_ne (by decide)]
      by_cases hij : i = j
      · subst hij
        simp only [upd, if_true]
        exact ⟨trivial, hok.2.2⟩
      · simp only [upd, if_neg hij]
        exact hI.1 i hi
    · rw [s2_ne (by decide), s2_ne (by decide), s2_ne (by decide), s2_ne (by decide)]
      exact hI.2 i hi
    · ((repeat (refine Fr.putq (m := 7) ?_ rfl (by decide))); exact Fr.rfl)
  · rw [cntS, if_neg hok, cntS, if_neg hok]
    refine ⟨?_, hk _ _ hI Fr.rfl⟩
    unfold cntR
    (repeat' split) <;> first | rfl | (exfalso; ((try simp only [i_le, i_lt, i_eq, l_le, l_lt, l_eq, i_ne, l_ne, toL, l_add, l_sub1, LIT1, LIT2, Int.reduceNeg, ge_iff_le, gt_iff_lt] at *); omega))
end H14
