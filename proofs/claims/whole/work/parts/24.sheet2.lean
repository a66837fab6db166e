/-! part 24: memory read and written by ranges; sheet on both sides -/
section H24
variable {d n N : Nat} {mu : aM} {ro : aR} {sg : aS} {K : Option Value → aS → Prop}
theorem s2_y {s : aS} {a k b j : Nat} {x : Int32} (h : b = a ∧ j = k) : s2 s a k x b j = x := by
  obtain ⟨rfl, rfl⟩ := h
  exact s2_own
theorem s2_n {s : aS} {a k b j : Nat} {x : Int32} (h : b ≠ a ∨ j ≠ k) : s2 s a k x b j = s b j := by
  by_cases hb : b = a
  · subst hb
    exact s2_oth (by omega)
  · exact s2_far hb
def rgS (s : aS) (A lo i : Nat) (f : Nat → Int32) : aS := va_up s A (fun j => if lo ≤ j ∧ j < lo + i then f (j - lo) else s A j)
theorem rg_y {s : aS} {A lo i b j : Nat} {f : Nat → Int32} (h : b = A ∧ lo ≤ j ∧ j < lo + i) : rgS s A lo i f b j = f (j - lo) := by
  obtain ⟨rfl, h⟩ := h
  simp only [rgS, va_up, if_true]
  rw [if_pos h]
theorem rg_n {s : aS} {A lo i b j : Nat} {f : Nat → Int32} (h : b ≠ A ∨ j < lo ∨ lo + i ≤ j) : rgS s A lo i f b j = s b j := by
  by_cases hb : b = A
  · subst hb
    simp only [rgS, va_up, if_true]
    rw [if_neg (by omega)]
  · simp only [rgS, va_up, if_neg hb]
theorem rg_0 {s : aS} {A lo : Nat} {f : Nat → Int32} : rgS s A lo 0 f = s := by
  funext a j
  exact rg_n (by omega)
theorem rg_s {s : aS} {A lo i j : Nat} {f : Nat → Int32} {x : Int32} (hj : j = lo + i) (hx : x = f i) : s2 (rgS s A lo i f) A j x = rgS s A lo (i + 1) f := by
  subst hj hx
  funext a j
  by_cases h : a = A
  · subst h
    by_cases hj : j = lo + i
    · subst hj
      rw [s2_own, rg_y (by omega)]
      congr 1
      omega
    · rw [s2_oth hj]
      by_cases hq : lo ≤ j ∧ j < lo + i
      · rw [rg_y (by omega), rg_y (by omega)]
      · rw [rg_n (by omega), rg_n (by omega)]
  · rw [s2_far h, rg_n (by omega), rg_n (by omega)]
theorem fl_y {s : aS} {A i b j : Nat} {v : Int32} (h : b = A ∧ j < i) : flS s A i v b j = v := by
  obtain ⟨rfl, h⟩ := h
  simp only [flS, va_up, if_true]
  rw [if_pos h]
theorem fl_n {s : aS} {A i b j : Nat} {v : Int32} (h : b ≠ A ∨ i ≤ j) : flS s A i v b j = s b j := by
  by_cases hb : b = A
  · subst hb
    simp only [flS, va_up, if_true]
    rw [if_neg (by omega)]
  · simp only [flS, va_up, if_neg hb]
theorem Fr.rg {ms : List Nat} {s s' : aS} {A lo i : Nat} {f : Nat → Int32} (h : Fr ms s s') (hr : ∀ j, reg A j ∈ ms ∨ reg A j = 0) : Fr ms s (rgS s' A lo i f) := by
  intro b j q1 q2
  by_cases hb : b = A
  · subst hb
    rcases hr j with hr | hr
    · exact absurd hr q1
    · exact absurd hr q2
  · rw [rg_n (Or.inl hb)]
    exact h b j q1 q2
theorem Fr.fl {ms : List Nat} {s s' : aS} {A i : Nat} {v : Int32} (h : Fr ms s s') (hr : ∀ j, reg A j ∈ ms ∨ reg A j = 0) : Fr ms s (flS s' A i v) := by
  intro b j q1 q2
  by_cases hb : b = A
  · subst hb
    rcases hr j with hr | hr
    · exact absurd hr q1
    · exact absurd hr q2
  · rw [fl_n (Or.inl hb)]
    exact h b j q1 q2
theorem Fr.w {ms ms' : List Nat} {s s' : aS} (h : Fr ms s s') (hm : ∀ x, x ∈ ms → x ∈ ms') : Fr ms' s s' := fun a k q1 q2 => h a k (fun q => q1 (hm _ q)) q2
set_option maxHeartbeats 4000000 in
set_option maxRecDepth 100000 in
theorem m_sheet {k : Nat} {l w : Int32} (hS : Sh mu ro) (hd : 3 ≤ d) (hk4 : k < 4) (hk1 : ¬ (0 ≤ l.toInt ∧ l.toInt ≤ 2) ∨ 60 < w.toInt → K (some (.int (-2))) (s2 sg 48 0 0)) (hk2 : (0 ≤ l.toInt ∧ l.toInt ≤ 2) → w.toInt < 0 → K (some (.int (-14))) (s2 sg 48 0 4)) (hk3 : ∀ w' : Nat, (0 ≤ l.toInt ∧ l.toInt ≤ 2) → w = nI w' → w' ≤ 60 → K (some (.int 1)) (s2 (rgS (s2 (s2 sg 85 k w) 86 k l) 87 (60 * k) w' (fun _ => 0)) 48 0 0)) : aCall d 237 [.ref 48, .int (nI k), .int l, .int w] n mu ro sg K := by
  have e1 : (nI k).toNatClampNeg = k := nI_clamp (by omega)
  have v1 : vp_in (nI k) 4 := vp_in_nI hk4 (by decide)
  refine aCall_start (mL := 5) (cc := cX12_sheet) (o := 12) (ret := (some .int)) 1 (by decide) (by decide +kernel) rfl rfl rfl rfl (Nat.le_of_ble_eq_true rfl) (fun G hC hG => ?_)
  simp only [exL, List.cons_append, List.nil_append, rp_0, rp_1, rp_2, rp_3, rp_4, rp_5, rp_6, rp_7, rp_8, rp_9, rp_10, rp_11, List.append_nil]
  refine hG (fun q => q == 65) 60 _ _ _ _ (Nat.le_of_ble_eq_true rfl) ?_
  simp only [D_X12_sheet, N_X12_sheet, vcS, vcC, vcI, gtF, ptF, inS, inV, fv0, fv1, fv2, fv3, fw0, fw1, lg_0, lg_1, lg_2, lg_3, lg_4, lg_5, lg_6, lg_7, lg_8, lg_9, lg_10, lg_11, lg_12, lg_13, lg_14, lsq_0, lsl_0, lsq_1, lsl_1, lsq_2, lsl_2, lsq_3, lsl_3, lsq_4, lsl_4, lsq_5, lsl_5, lsq_6, lsl_6, lsq_7, lsl_7, lsq_8, lsl_8, lsq_9, lsl_9, lsq_10, lsl_10, lsq_11, lsl_11, lsq_12, lsl_12, lsq_13, lsl_13, lsq_14, lsl_14, tk_0, tk_1, tk_2, tk_3, tk_4, tk_5, tk_6, tk_7, tk_8, cs_n, cs_i, cs_l, cs_r, cs_u, nl, rt_s, rt_n, CST1, Nat.reduceAdd, Nat.reduceLeDiff, va_rf, rtOk, Bool.false_eq_true, Bool.true_eq_false, if_false, if_true, ite_true, ite_false, true_and, and_true, eq_self, ne_eq, not_false_eq_true, not_true_eq_false, false_implies, true_implies, and_self, reduceCtorEq, Nat.reduceBEq, Bool.or_false, Bool.false_or, Bool.or_true, Bool.true_or, if1_0, if1_1, if1_01, one_01, zer_01, lg_cmp_ge, lg_cmp_le, lg_cmp_gt, lg_cmp_lt, lg_cmp_eq, Classical.not_not, SHm hS, SHr hS]
  refine ⟨by omega, m_noSheetN (by omega) hk4 ?_⟩
  simp only [D_X12_sheet, N_X12_sheet, vcS, vcC, vcI, gtF, ptF, inS, inV, fv0, fv1, fv2, fv3, fw0, fw1, lg_0, lg_1, lg_2, lg_3, lg_4, lg_5, lg_6, lg_7, lg_8, lg_9, lg_10, lg_11, lg_12, lg_13, lg_14, lsq_0, lsl_0, lsq_1, lsl_1, lsq_2, lsl_2, lsq_3, lsl_3, lsq_4, lsl_4, lsq_5, lsl_5, lsq_6, lsl_6, lsq_7, lsl_7, lsq_8, lsl_8, lsq_9, lsl_9, lsq_10, lsl_10, lsq_11, lsl_11, lsq_12, lsl_12, lsq_13, lsl_13, lsq_14, lsl_14, tk_0, tk_1, tk_2, tk_3, tk_4, tk_5, tk_6, tk_7, tk_8, cs_n, cs_i, cs_l, cs_r, cs_u, nl, rt_s, rt_n, CST1, Nat.reduceAdd, Nat.reduceLeDiff, va_rf, rtOk, Bool.false_eq_true, Bool.true_eq_false, if_false, if_true, ite_true, ite_false, true_and, and_true, eq_self, ne_eq, not_false_eq_true, not_true_eq_false, false_implies, true_implies, and_self, reduceCtorEq, Nat.reduceBEq, Bool.or_false, Bool.false_or, Bool.or_true, Bool.true_or, if1_0, if1_1, if1_01, one_01, zer_01, lg_cmp_ge, lg_cmp_le, lg_cmp_gt, lg_cmp_lt, lg_cmp_eq, Classical.not_not, SHm hS, SHr hS, e1]
  repeat' (first | (with_reducible assumption) | (refine vp_in_iff.mpr ?_; ((try simp only [i_le, i_lt, i_eq, l_le, l_lt, l_eq, i_ne, l_ne, toL, l_add, l_sub1, LIT1, LIT2, Int.reduceNeg, ge_iff_le, gt_iff_lt] at *); omega)) | (refine And.intro ?_ ?_) | (omega) | (refine m_in ?_; simp only [D_X12_sheet, N_X12_sheet, vcS, vcC, vcI, gtF, ptF, inS, inV, fv0, fv1, fv2, fv3, fw0, fw1, lg_0, lg_1, lg_2, lg_3, lg_4, lg_5, lg_6, lg_7, lg_8, lg_9, lg_10, lg_11, lg_12, lg_13, lg_14, lsq_0, lsl_0, lsq_1, lsl_1, lsq_2, lsl_2, lsq_3, lsl_3, lsq_4, lsl_4, lsq_5, lsl_5, lsq_6, lsl_6, lsq_7, lsl_7, lsq_8, lsl_8, lsq_9, lsl_9, lsq_10, lsl_10, lsq_11, lsl_11, lsq_12, lsl_12, lsq_13, lsl_13, lsq_14, lsl_14, tk_0, tk_1, tk_2, tk_3, tk_4, tk_5, tk_6, tk_7, tk_8, cs_n, cs_i, cs_l, cs_r, cs_u, nl, rt_s, rt_n, CST1, Nat.reduceAdd, Nat.reduceLeDiff, va_rf, rtOk, Bool.false_eq_true, Bool.true_eq_false, if_false, if_true, ite_true, ite_false, true_and, and_true, eq_self, ne_eq, not_false_eq_true, not_true_eq_false, false_implies, true_implies, and_self, reduceCtorEq, Nat.reduceBEq, Bool.or_false, Bool.false_or, Bool.or_true, Bool.true_or, if1_0, if1_1, if1_01, one_01, zer_01, lg_cmp_ge, lg_cmp_le, lg_cmp_gt, lg_cmp_lt, lg_cmp_eq, Classical.not_not, SHm hS, SHr hS, LIT2, toL, e1]) | (refine m_refused hS ?_; simp only [D_X12_sheet, N_X12_sheet, vcS, vcC, vcI, gtF, ptF, inS, inV, fv0, fv1, fv2, fv3, fw0, fw1, lg_0, lg_1, lg_2, lg_3, lg_4, lg_5, lg_6, lg_7, lg_8, lg_9, lg_10, lg_11, lg_12, lg_13, lg_14, lsq_0, lsl_0, lsq_1, lsl_1, lsq_2, lsl_2, lsq_3, lsl_3, lsq_4, lsl_4, lsq_5, lsl_5, lsq_6, lsl_6, lsq_7, lsl_7, lsq_8, lsl_8, lsq_9, lsl_9, lsq_10, lsl_10, lsq_11, lsl_11, lsq_12, lsl_12, lsq_13, lsl_13, lsq_14, lsl_14, tk_0, tk_1, tk_2, tk_3, tk_4, tk_5, tk_6, tk_7, tk_8, cs_n, cs_i, cs_l, cs_r, cs_u, nl, rt_s, rt_n, CST1, Nat.reduceAdd, Nat.reduceLeDiff, va_rf, rtOk, Bool.false_eq_true, Bool.true_eq_false, if_false, if_true, ite_true, ite_false, true_and, and_true, eq_self, ne_eq, not_false_eq_true, not_true_eq_false, false_implies, true_implies, and_self, reduceCtorEq, Nat.reduceBEq, Bool.or_false, Bool.false_or, Bool.or_true, Bool.true_or, if1_0, if1_1, if1_01, one_01, zer_01, lg_cmp_ge, lg_cmp_le, lg_cmp_gt, lg_cmp_lt, lg_cmp_eq, Classical.not_not, SHm hS, SHr hS, LIT2, toL, e1]) | (refine m_failed hS ?_; simp only [D_X12_sheet, N_X12_sheet, vcS, vcC, vcI, gtF, ptF, inS, inV, fv0, fv1, fv2, fv3, fw0, fw1, lg_0, lg_1, lg_2, lg_3, lg_4, lg_5, lg_6, lg_7, lg_8, lg_9, lg_10, lg_11, lg_12, lg_13, lg_14, lsq_0, lsl_0, lsq_1, lsl_1, lsq_2, lsl_2, lsq_3, lsl_3, lsq_4, lsl_4, lsq_5, lsl_5, lsq_6, lsl_6, lsq_7, lsl_7, lsq_8, lsl_8, lsq_9, lsl_9, lsq_10, lsl_10, lsq_11, lsl_11, lsq_12, lsl_12, lsq_13, lsl_13, lsq_14, lsl_14, tk_0, tk_1, tk_2, tk_3, tk_4, tk_5, tk_6, tk_7, tk_8, cs_n, cs_i, cs_l, cs_r, cs_u, nl, rt_s, rt_n, CST1, Nat.reduceAdd, Nat.reduceLeDiff, va_rf, rtOk, Bool.false_eq_true, Bool.true_eq_false, if_false, if_true, ite_true, ite_false, true_and, and_true, eq_self, ne_eq, not_false_eq_true, not_true_eq_false, false_implies, true_implies, and_self, reduceCtorEq, Nat.reduceBEq, Bool.or_false, Bool.false_or, Bool.or_true, Bool.true_or, if1_0, if1_1, if1_01, one_01, zer_01, lg_cmp_ge, lg_cmp_le, lg_cmp_gt, lg_cmp_lt, lg_cmp_eq, Classical.not_not, SHm hS, SHr hS, LIT2, toL, e1]) | (with_reducible intro _))
  all_goals first | (exact hk1 (by ((try simp only [i_le, i_lt, i_eq, l_le, l_lt, l_eq, i_ne, l_ne, toL, l_add, l_sub1, LIT1, LIT2, Int.reduceNeg, ge_iff_le, gt_iff_lt] at *); omega))) | (exact hk2 (by ((try simp only [i_le, i_lt, i_eq, l_le, l_lt, l_eq, i_ne, l_ne, toL, l_add, l_sub1, LIT1, LIT2, Int.reduceNeg, ge_iff_le, gt_iff_lt] at *); omega)) (by ((try simp only [i_le, i_lt, i_eq, l_le, l_lt, l_eq, i_ne, l_ne, toL, l_add, l_sub1, LIT1, LIT2, Int.reduceNeg, ge_iff_le, gt_iff_lt] at *); omega))) | skip
  rename_i q1 q2 q3
  obtain ⟨w', hw', rfl⟩ := i_of (x := w) (N := 60) (by ((try simp only [i_le, i_lt, i_eq, l_le, l_lt, l_eq, i_ne, l_ne, toL, l_add, l_sub1, LIT1, LIT2, Int.reduceNeg, ge_iff_le, gt_iff_lt] at *); omega)) (by ((try simp only [i_le, i_lt, i_eq, l_le, l_lt, l_eq, i_ne, l_ne, toL, l_add, l_sub1, LIT1, LIT2, Int.reduceNeg, ge_iff_le, gt_iff_lt] at *); omega)) (by decide)
  have hk9 := hk3 w' q1 rfl hw'
  generalize s2 (s2 sg 85 k (nI w')) 86 k l = t at hk9 ⊢
  have loop : ∀ (m i : Nat), i + m = w' → AW G 5 n 0 0 mu ro (rgS t 87 (60 * k) i (fun _ => 0)) 65 [.ref 48, .int (nI k), .int l, .int (nI w'), .int (nI i)] [] := by
    intro m
    induction m with
    | zero =>
      intro i hi
      have hi' : i = w' := by omega
      subst hi'
      refine hG (fun q => q == 65) 60 _ _ _ _ (Nat.le_of_ble_eq_true rfl) ?_
      simp only [D_X12_sheet, N_X12_sheet, vcS, vcC, vcI, gtF, ptF, inS, inV, fv0, fv1, fv2, fv3, fw0, fw1, lg_0, lg_1, lg_2, lg_3, lg_4, lg_5, lg_6, lg_7, lg_8, lg_9, lg_10, lg_11, lg_12, lg_13, lg_14, lsq_0, lsl_0, lsq_1, lsl_1, lsq_2, lsl_2, lsq_3, lsl_3, lsq_4, lsl_4, lsq_5, lsl_5, lsq_6, lsl_6, lsq_7, lsl_7, lsq_8, lsl_8, lsq_9, lsl_9, lsq_10, lsl_10, lsq_11, lsl_11, lsq_12, lsl_12, lsq_13, lsl_13, lsq_14, lsl_14, tk_0, tk_1, tk_2, tk_3, tk_4, tk_5, tk_6, tk_7, tk_8, cs_n, cs_i, cs_l, cs_r, cs_u, nl, rt_s, rt_n, CST1, Nat.reduceAdd, Nat.reduceLeDiff, va_rf, rtOk, Bool.false_eq_true, Bool.true_eq_false, if_false, if_true, ite_true, ite_false, true_and, and_true, eq_self, ne_eq, not_false_eq_true, not_true_eq_false, false_implies, true_implies, and_self, reduceCtorEq, Nat.reduceBEq, Bool.or_false, Bool.false_or, Bool.or_true, Bool.true_or, if1_0, if1_1, if1_01, one_01, zer_01, lg_cmp_ge, lg_cmp_le, lg_cmp_gt, lg_cmp_lt, lg_cmp_eq, Classical.not_not, SHm hS, SHr hS]
      refine ⟨fun _ => ⟨by omega, m_refused hS ?_⟩, fun h => absurd (nI_le (Nat.le_refl i) (by omega)) h⟩
      simp only [D_X12_sheet, N_X12_sheet, vcS, vcC, vcI, gtF, ptF, inS, inV, fv0, fv1, fv2, fv3, fw0, fw1, lg_0, lg_1, lg_2, lg_3, lg_4, lg_5, lg_6, lg_7, lg_8, lg_9, lg_10, lg_11, lg_12, lg_13, lg_14, lsq_0, lsl_0, lsq_1, lsl_1, lsq_2, lsl_2, lsq_3, lsl_3, lsq_4, lsl_4, lsq_5, lsl_5, lsq_6, lsl_6, lsq_7, lsl_7, lsq_8, lsl_8, lsq_9, lsl_9, lsq_10, lsl_10, lsq_11, lsl_11, lsq_12, lsl_12, lsq_13, lsl_13, lsq_14, lsl_14, tk_0, tk_1, tk_2, tk_3, tk_4, tk_5, tk_6, tk_7, tk_8, cs_n, cs_i, cs_l, cs_r, cs_u, nl, rt_s, rt_n, CST1, Nat.reduceAdd, Nat.reduceLeDiff, va_rf, rtOk, Bool.false_eq_true, Bool.true_eq_false, if_false, if_true, ite_true, ite_false, true_and, and_true, eq_self, ne_eq, not_false_eq_true, not_true_eq_false, false_implies, true_implies, and_self, reduceCtorEq, Nat.reduceBEq, Bool.or_false, Bool.false_or, Bool.or_true, Bool.true_or, if1_0, if1_1, if1_01, one_01, zer_01, lg_cmp_ge, lg_cmp_le, lg_cmp_gt, lg_cmp_lt, lg_cmp_eq, Classical.not_not, SHm hS, SHr hS]
      exact hk9
    | succ m ih =>
      intro i hi
      have e5 : 60 * nI k + nI i = nI (60 * k + i) := by rw [show (60 : Int32) = nI 60 from rfl, pk_mul, nI_add]
      have e6 : (nI (60 * k + i)).toNatClampNeg = 60 * k + i := nI_clamp (by omega)
      refine hG (fun q => q == 65) 60 _ _ _ _ (Nat.le_of_ble_eq_true rfl) ?_
      simp only [D_X12_sheet, N_X12_sheet, vcS, vcC, vcI, gtF, ptF, inS, inV, fv0, fv1, fv2, fv3, fw0, fw1, lg_0, lg_1, lg_2, lg_3, lg_4, lg_5, lg_6, lg_7, lg_8, lg_9, lg_10, lg_11, lg_12, lg_13, lg_14, lsq_0, lsl_0, lsq_1, lsl_1, lsq_2, lsl_2, lsq_3, lsl_3, lsq_4, lsl_4, lsq_5, lsl_5, lsq_6, lsl_6, lsq_7, lsl_7, lsq_8, lsl_8, lsq_9, lsl_9, lsq_10, lsl_10, lsq_11, lsl_11, lsq_12, lsl_12, lsq_13, lsl_13, lsq_14, lsl_14, tk_0, tk_1, tk_2, tk_3, tk_4, tk_5, tk_6, tk_7, tk_8, cs_n, cs_i, cs_l, cs_r, cs_u, nl, rt_s, rt_n, CST1, Nat.reduceAdd, Nat.reduceLeDiff, va_rf, rtOk, Bool.false_eq_true, Bool.true_eq_false, if_false, if_true, ite_true, ite_false, true_and, and_true, eq_self, ne_eq, not_false_eq_true, not_true_eq_false, false_implies, true_implies, and_self, reduceCtorEq, Nat.reduceBEq, Bool.or_false, Bool.false_or, Bool.or_true, Bool.true_or, if1_0, if1_1, if1_01, one_01, zer_01, lg_cmp_ge, lg_cmp_le, lg_cmp_gt, lg_cmp_lt, lg_cmp_eq, Classical.not_not, SHm hS, SHr hS, e5, e6, nI_1]
      refine ⟨fun h => absurd h (nI_ge (by omega) (by omega)), fun _ => ⟨vp_in_nI (by omega) (by decide), ?_⟩⟩
      rw [rg_s rfl rfl]
      exact ih (i + 1) (by omega)
  have := loop w' 0 (by omega)
  rw [rg_0] at this
  exact this
set_option maxHeartbeats 4000000 in
set_option maxRecDepth 100000 in
theorem c_sheetY {x l w : Int32} (hS : Sh mu ro) (hd : 3 ≤ d) (hb : ¬ (0 ≤ x.toInt ∧ x.toInt ≤ 3)) (hk : K (some (.int (-1))) (s2 sg 0 14 0)) : aCall d 136 [.ref 0, .int x, .int l, .int w] n mu ro sg K := by
  refine aCall_start (mL := 5) (cc := cX11_sheet) (o := 11) (ret := (some .int)) 1 (by decide) (by decide +kernel) rfl rfl rfl rfl (Nat.le_of_ble_eq_true rfl) (fun G hC hG => ?_)
  simp only [exL, List.cons_append, List.nil_append, rp_0, rp_1, rp_2, rp_3, rp_4, rp_5, rp_6, rp_7, rp_8, rp_9, rp_10, rp_11, List.append_nil]
  refine hG (fun _ => false) 60 _ _ _ _ (Nat.le_of_ble_eq_true rfl) ?_
  simp only [D_X11_sheet, N_X11_sheet, vcS, vcC, vcI, gtF, ptF, inS, inV, fv0, fv1, fv2, fv3, fw0, fw1, lg_0, lg_1, lg_2, lg_3, lg_4, lg_5, lg_6, lg_7, lg_8, lg_9, lg_10, lg_11, lg_12, lg_13, lg_14, lsq_0, lsl_0, lsq_1, lsl_1, lsq_2, lsl_2, lsq_3, lsl_3, lsq_4, lsl_4, lsq_5, lsl_5, lsq_6, lsl_6, lsq_7, lsl_7, lsq_8, lsl_8, lsq_9, lsl_9, lsq_10, lsl_10, lsq_11, lsl_11, lsq_12, lsl_12, lsq_13, lsl_13, lsq_14, lsl_14, tk_0, tk_1, tk_2, tk_3, tk_4, tk_5, tk_6, tk_7, tk_8, cs_n, cs_i, cs_l, cs_r, cs_u, nl, rt_s, rt_n, CST1, Nat.reduceAdd, Nat.reduceLeDiff, va_rf, rtOk, Bool.false_eq_true, Bool.true_eq_false, if_false, if_true, ite_true, ite_false, true_and, and_true, eq_self, ne_eq, not_false_eq_true, not_true_eq_false, false_implies, true_implies, and_self, reduceCtorEq, Nat.reduceBEq, Bool.or_false, Bool.false_or, Bool.or_true, Bool.true_or, if1_0, if1_1, if1_01, one_01, zer_01, lg_cmp_ge, lg_cmp_le, lg_cmp_gt, lg_cmp_lt, lg_cmp_eq, Classical.not_not, SHm hS, SHr hS]
  refine ⟨by omega, c_sheetX hS (by omega) hb ?_⟩
  simp only [D_X11_sheet, N_X11_sheet, vcS, vcC, vcI, gtF, ptF, inS, inV, fv0, fv1, fv2, fv3, fw0, fw1, lg_0, lg_1, lg_2, lg_3, lg_4, lg_5, lg_6, lg_7, lg_8, lg_9, lg_10, lg_11, lg_12, lg_13, lg_14, lsq_0, lsl_0, lsq_1, lsl_1, lsq_2, lsl_2, lsq_3, lsl_3, lsq_4, lsl_4, lsq_5, lsl_5, lsq_6, lsl_6, lsq_7, lsl_7, lsq_8, lsl_8, lsq_9, lsl_9, lsq_10, lsl_10, lsq_11, lsl_11, lsq_12, lsl_12, lsq_13, lsl_13, lsq_14, lsl_14, tk_0, tk_1, tk_2, tk_3, tk_4, tk_5, tk_6, tk_7, tk_8, cs_n, cs_i, cs_l, cs_r, cs_u, nl, rt_s, rt_n, CST1, Nat.reduceAdd, Nat.reduceLeDiff, va_rf, rtOk, Bool.false_eq_true, Bool.true_eq_false, if_false, if_true, ite_true, ite_false, true_and, and_true, eq_self, ne_eq, not_false_eq_true, not_true_eq_false, false_implies, true_implies, and_self, reduceCtorEq, Nat.reduceBEq, Bool.or_false, Bool.false_or, Bool.or_true, Bool.true_or, if1_0, if1_1, if1_01, one_01, zer_01, lg_cmp_ge, lg_cmp_le, lg_cmp_gt, lg_cmp_lt, lg_cmp_eq, Classical.not_not, SHm hS, SHr hS]
  exact hk
set_option maxHeartbeats 4000000 in
set_option maxRecDepth 100000 in
theorem m_sheetY {x l w : Int32} (hS : Sh mu ro) (hd : 3 ≤ d) (hb : ¬ (0 ≤ x.toInt ∧ x.toInt ≤ 3)) (hk : K (some (.int (-1))) (s2 sg 48 0 0)) : aCall d 237 [.ref 48, .int x, .int l, .int w] n mu ro sg K := by
  have c10 : ¬ (1 : Int32) = 0 := by decide
  refine aCall_start (mL := 5) (cc := cX12_sheet) (o := 12) (ret := (some .int)) 1 (by decide) (by decide +kernel) rfl rfl rfl rfl (Nat.le_of_ble_eq_true rfl) (fun G hC hG => ?_)
  simp only [exL, List.cons_append, List.nil_append, rp_0, rp_1, rp_2, rp_3, rp_4, rp_5, rp_6, rp_7, rp_8, rp_9, rp_10, rp_11, List.append_nil]
  refine hG (fun q => q == 65) 60 _ _ _ _ (Nat.le_of_ble_eq_true rfl) ?_
  simp only [D_X12_sheet, N_X12_sheet, vcS, vcC, vcI, gtF, ptF, inS, inV, fv0, fv1, fv2, fv3, fw0, fw1, lg_0, lg_1, lg_2, lg_3, lg_4, lg_5, lg_6, lg_7, lg_8, lg_9, lg_10, lg_11, lg_12, lg_13, lg_14, lsq_0, lsl_0, lsq_1, lsl_1, lsq_2, lsl_2, lsq_3, lsl_3, lsq_4, lsl_4, lsq_5, lsl_5, lsq_6, lsl_6, lsq_7, lsl_7, lsq_8, lsl_8, lsq_9, lsl_9, lsq_10, lsl_10, lsq_11, lsl_11, lsq_12, lsl_12, lsq_13, lsl_13, lsq_14, lsl_14, tk_0, tk_1, tk_2, tk_3, tk_4, tk_5, tk_6, tk_7, tk_8, cs_n, cs_i, cs_l, cs_r, cs_u, nl, rt_s, rt_n, CST1, Nat.reduceAdd, Nat.reduceLeDiff, va_rf, rtOk, Bool.false_eq_true, Bool.true_eq_false, if_false, if_true, ite_true, ite_false, true_and, and_true, eq_self, ne_eq, not_false_eq_true, not_true_eq_false, false_implies, true_implies, and_self, reduceCtorEq, Nat.reduceBEq, Bool.or_false, Bool.false_or, Bool.or_true, Bool.true_or, if1_0, if1_1, if1_01, one_01, zer_01, lg_cmp_ge, lg_cmp_le, lg_cmp_gt, lg_cmp_lt, lg_cmp_eq, Classical.not_not, SHm hS, SHr hS]
  refine ⟨by omega, m_noSheetX (by omega) hb ?_⟩
  simp only [D_X12_sheet, N_X12_sheet, vcS, vcC, vcI, gtF, ptF, inS, inV, fv0, fv1, fv2, fv3, fw0, fw1, lg_0, lg_1, lg_2, lg_3, lg_4, lg_5, lg_6, lg_7, lg_8, lg_9, lg_10, lg_11, lg_12, lg_13, lg_14, lsq_0, lsl_0, lsq_1, lsl_1, lsq_2, lsl_2, lsq_3, lsl_3, lsq_4, lsl_4, lsq_5, lsl_5, lsq_6, lsl_6, lsq_7, lsl_7, lsq_8, lsl_8, lsq_9, lsl_9, lsq_10, lsl_10, lsq_11, lsl_11, lsq_12, lsl_12, lsq_13, lsl_13, lsq_14, lsl_14, tk_0, tk_1, tk_2, tk_3, tk_4, tk_5, tk_6, tk_7, tk_8, cs_n, cs_i, cs_l, cs_r, cs_u, nl, rt_s, rt_n, CST1, Nat.reduceAdd, Nat.reduceLeDiff, va_rf, rtOk, Bool.false_eq_true, Bool.true_eq_false, if_false, if_true, ite_true, ite_false, true_and, and_true, eq_self, ne_eq, not_false_eq_true, not_true_eq_false, false_implies, true_implies, and_self, reduceCtorEq, Nat.reduceBEq, Bool.or_false, Bool.false_or, Bool.or_true, Bool.true_or, if1_0, if1_1, if1_01, one_01, zer_01, lg_cmp_ge, lg_cmp_le, lg_cmp_gt, lg_cmp_lt, lg_cmp_eq, Classical.not_not, SHm hS, SHr hS, c10]
  refine ⟨by omega, m_refused hS ?_⟩
  simp only [D_X12_sheet, N_X12_sheet, vcS, vcC, vcI, gtF, ptF, inS, inV, fv0, fv1, fv2, fv3, fw0, fw1, lg_0, lg_1, lg_2, lg_3, lg_4, lg_5, lg_6, lg_7, lg_8, lg_9, lg_10, lg_11, lg_12, lg_13, lg_14, lsq_0, lsl_0, lsq_1, lsl_1, lsq_2, lsl_2, lsq_3, lsl_3, lsq_4, lsl_4, lsq_5, lsl_5, lsq_6, lsl_6, lsq_7, lsl_7, lsq_8, lsl_8, lsq_9, lsl_9, lsq_10, lsl_10, lsq_11, lsl_11, lsq_12, lsl_12, lsq_13, lsl_13, lsq_14, lsl_14, tk_0, tk_1, tk_2, tk_3, tk_4, tk_5, tk_6, tk_7, tk_8, cs_n, cs_i, cs_l, cs_r, cs_u, nl, rt_s, rt_n, CST1, Nat.reduceAdd, Nat.reduceLeDiff, va_rf, rtOk, Bool.false_eq_true, Bool.true_eq_false, if_false, if_true, ite_true, ite_false, true_and, and_true, eq_self, ne_eq, not_false_eq_true, not_true_eq_false, false_implies, true_implies, and_self, reduceCtorEq, Nat.reduceBEq, Bool.or_false, Bool.false_or, Bool.or_true, Bool.true_or, if1_0, if1_1, if1_01, one_01, zer_01, lg_cmp_ge, lg_cmp_le, lg_cmp_gt, lg_cmp_lt, lg_cmp_eq, Classical.not_not, SHm hS, SHr hS, c10]
  exact hk
-- the invariant, where the fault alone has changed
theorem I_sh.ft {s s' : aS} (h : I_sh s) (hf : ∀ a k, ¬ (a = 0 ∧ k = 14) → ¬ (a = 48 ∧ k = 0) → s' a k = s a k) (hf2 : s' 0 14 = s' 48 0) : I_sh s' := by
  refine h.fr (fun a k q => hf a k (fun z => ?_) (fun z => ?_)) hf2
  · rw [z.1, z.2] at q; exact absurd q (by decide)
  · rw [z.1, z.2] at q; exact absurd q (by decide)
theorem ft2 {s : aS} {x : Int32} : (∀ a k, ¬ (a = 0 ∧ k = 14) → ¬ (a = 48 ∧ k = 0) → s2 (s2 s 0 14 x) 48 0 x a k = s a k) ∧ s2 (s2 s 0 14 x) 48 0 x 0 14 = s2 (s2 s 0 14 x) 48 0 x 48 0 := by
  refine ⟨fun a k q1 q2 => ?_, ?_⟩
  · rw [s2_n (by omega), s2_n (by omega)]
  · rw [s2_n (by omega), s2_y (by omega), s2_y (by omega)]
theorem Fr_ft {s : aS} {x : Int32} : Fr [11, 13] s (s2 (s2 s 0 14 x) 48 0 x) := by ((repeat (refine Fr.putq (m := 13) ?_ rfl (by decide))); exact Fr.rfl)
set_option maxHeartbeats 4000000 in
set_option maxRecDepth 100000 in
theorem b_sheet {x l w : Int32} (hS : Sh mu ro) (hd : 3 ≤ d) (hI : I_sh sg) (hk : ∀ r sg2, I_sh sg2 → Fr [11, 13] sg sg2 → K r sg2) : aCall d 136 [.ref 0, .int x, .int l, .int w] n mu ro sg (fun r1 sg1 => aCall d 237 [.ref 48, .int x, .int l, .int w] n mu ro sg1 (fun r2 sg2 => r1 = r2 ∧ K r1 sg2)) := by
  have hf : ∀ v r, K r (s2 (s2 sg 0 14 v) 48 0 v) := fun v r => hk _ _ (hI.ft ft2.1 ft2.2) Fr_ft
  by_cases hok : 0 ≤ x.toInt ∧ x.toInt ≤ 3
  · obtain ⟨k, hk4, rfl⟩ := k_of hok
    refine c_sheet hS hd hk4 (fun q => ?_) (fun q1 q2 => ?_) (fun q1 q2 q3 => ?_)
    · exact m_sheet hS hd hk4 (fun _ => ⟨rfl, hf _ _⟩) (fun p1 p2 => by exfalso; omega) (fun w' p1 p2 p3 => by subst p2; rw [nI_toInt (by omega)] at q; exfalso; omega)
    · exact m_sheet hS hd hk4 (fun _ => by exfalso; omega) (fun p1 p2 => ⟨rfl, hf _ _⟩) (fun w' p1 p2 p3 => by subst p2; rw [nI_toInt (by omega)] at q2; exfalso; omega)
    · refine m_sheet hS hd hk4 (fun _ => by exfalso; omega) (fun p1 p2 => by exfalso; omega) (fun w' p1 p2 p3 => ⟨rfl, hk _ _ (sh_to ?_ (fun k' hk' => ?_)) ?_⟩)
      · ((try simp (disch := omega) only [s2_y, s2_n, rg_y, rg_n, fl_y, fl_n]); (try with_reducible rfl); (try assumption))
      · have ew : (nI w').toInt = w' := nI_toInt (by omega)
        by_cases hkk : k' = k
        · subst hkk
          refine Or.inr ⟨by ((try simp (disch := omega) only [s2_y, s2_n, rg_y, rg_n, fl_y, fl_n]); (try with_reducible rfl); (try assumption)), by ((try simp (disch := omega) only [s2_y, s2_n, rg_y, rg_n, fl_y, fl_n]); (try with_reducible rfl); (try assumption)), ?_, by ((try simp (disch := omega) only [s2_y, s2_n, rg_y, rg_n, fl_y, fl_n]); (try with_reducible rfl); (try assumption)), ?_, fun i hi => ?_⟩
          · ((try simp (disch := omega) only [s2_y, s2_n, rg_y, rg_n, fl_y, fl_n]); (try with_reducible rfl); (try assumption))
            subst p2
            exact ⟨by omega, by omega⟩
          · ((try simp (disch := omega) only [s2_y, s2_n, rg_y, rg_n, fl_y, fl_n]); (try with_reducible rfl); (try assumption))
          · simp (disch := omega) only [s2_y, s2_n, rg_n, fl_n] at hi
            subst p2
            ((try simp (disch := omega) only [s2_y, s2_n, rg_y, rg_n, fl_y, fl_n]); (try with_reducible rfl); (try assumption))
        · refine sh1_fr (sh_of hI hk') (fun j => by ((try simp (disch := omega) only [s2_y, s2_n, rg_y, rg_n, fl_y, fl_n]); (try with_reducible rfl); (try assumption))) (fun j => by ((try simp (disch := omega) only [s2_y, s2_n, rg_y, rg_n, fl_y, fl_n]); (try with_reducible rfl); (try assumption))) (by ((try simp (disch := omega) only [s2_y, s2_n, rg_y, rg_n, fl_y, fl_n]); (try with_reducible rfl); (try assumption))) (by ((try simp (disch := omega) only [s2_y, s2_n, rg_y, rg_n, fl_y, fl_n]); (try with_reducible rfl); (try assumption))) (fun i hi => ?_)
          have := sh_of hI hk'
          rcases this with ⟨g1, g2⟩ | ⟨g1, g2, g3, g4⟩
          · rw [g2] at hi
            exact absurd hi (by rw [show (-1 : Int32).toInt = -1 by decide]; omega)
          · have := g3.2
            ((try simp (disch := omega) only [s2_y, s2_n, rg_y, rg_n, fl_y, fl_n]); (try with_reducible rfl); (try assumption))
      · refine Fr.putq (m := 13) (Fr.rg (Fr.putq (m := 11) (Fr.putq (m := 11) (Fr.fl ?_ (fun j => Or.inl ?_)) rfl (by decide)) rfl (by decide)) (fun j => Or.inl (by rw [show reg 87 j = 11 from rfl]; decide))) rfl (by decide)
        · exact Fr.putq (m := 11) (Fr.putq (m := 11) (Fr.putq (m := 11) (Fr.putq (m := 13) Fr.rfl rfl (by decide)) (reg_sh hk4).1 (by decide)) (reg_sh hk4).1 (by decide)) (reg_sh hk4).1 (by decide)
        · rw [(reg_sh hk4).2]; decide
  · exact c_sheetY hS hd hok (m_sheetY hS hd hok ⟨rfl, hf _ _⟩)
end H24
