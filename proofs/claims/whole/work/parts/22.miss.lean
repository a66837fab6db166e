/-! part 22: miss on both sides; sheets: lose, sheet, set, cell -/
section H22
variable {d n N : Nat} {mu : aM} {ro : aR} {sg : aS} {K : Option Value → aS → Prop}
def msC (f th t : Nat → Int32) : Nat → Nat
  | 0 => 0
  | m + 1 => msC f th t m + (if t m < tdF f (th m).toNatClampNeg then 1 else 0)
theorem msC_le (f th t : Nat → Int32) : ∀ m, msC f th t m ≤ m
  | 0 => Nat.le_refl 0
  | m + 1 => by unfold msC; have := msC_le f th t m; split <;> omega
set_option maxHeartbeats 4000000 in
set_option maxRecDepth 100000 in
theorem c_missed (hS : Sh mu ro) (hd : 3 ≤ d) (hN : sg 26 3 = nI N) (hN2 : N ≤ 200) (hth : ∀ j, j < N → i_bw (sg 28 j) 0 9999) (hk : K (some (.int (nI (msC (sg 27) (sg 28) (sg 29) N)))) sg) : aCall d 57 [.ref 26] n mu ro sg K := by
  refine aCall_start (mL := 3) (cc := cX7_missed) (o := 7) (ret := (some .int)) 2 (by decide) (by decide +kernel) rfl rfl rfl rfl (Nat.le_of_ble_eq_true rfl) (fun G hC hG => ?_)
  simp only [exL, List.cons_append, List.nil_append, rp_0, rp_1, rp_2, rp_3, rp_4, rp_5, rp_6, rp_7, rp_8, rp_9, rp_10, rp_11, List.append_nil]
  have loop : ∀ (m i : Nat), i + m = N → AW G 3 n 0 0 mu ro sg 4 [.ref 26, .int (nI (msC (sg 27) (sg 28) (sg 29) i)), .int (nI i)] [] := by
    intro m
    induction m with
    | zero =>
      intro i hi
      have hi' : i = N := by omega
      subst hi'
      refine hG (fun q => q == 4) 60 _ _ _ _ (Nat.le_of_ble_eq_true rfl) ?_
      simp only [D_X7_missed, N_X7_missed, vcS, vcC, vcI, gtF, ptF, inS, inV, fv0, fv1, fv2, fv3, fw0, fw1, lg_0, lg_1, lg_2, lg_3, lg_4, lg_5, lg_6, lg_7, lg_8, lg_9, lg_10, lg_11, lg_12, lg_13, lg_14, lsq_0, lsl_0, lsq_1, lsl_1, lsq_2, lsl_2, lsq_3, lsl_3, lsq_4, lsl_4, lsq_5, lsl_5, lsq_6, lsl_6, lsq_7, lsl_7, lsq_8, lsl_8, lsq_9, lsl_9, lsq_10, lsl_10, lsq_11, lsl_11, lsq_12, lsl_12, lsq_13, lsl_13, lsq_14, lsl_14, tk_0, tk_1, tk_2, tk_3, tk_4, tk_5, tk_6, tk_7, tk_8, cs_n, cs_i, cs_l, cs_r, cs_u, nl, rt_s, rt_n, CST1, Nat.reduceAdd, Nat.reduceLeDiff, va_rf, rtOk, Bool.false_eq_true, Bool.true_eq_false, if_false, if_true, ite_true, ite_false, true_and, and_true, eq_self, ne_eq, not_false_eq_true, not_true_eq_false, false_implies, true_implies, and_self, reduceCtorEq, Nat.reduceBEq, Bool.or_false, Bool.false_or, Bool.or_true, Bool.true_or, if1_0, if1_1, if1_01, one_01, zer_01, lg_cmp_ge, lg_cmp_le, lg_cmp_gt, lg_cmp_lt, lg_cmp_eq, Classical.not_not, SHm hS, SHr hS, hN]
      exact ⟨fun _ => hk, fun h => absurd (nI_le (Nat.le_refl i) (by omega)) h⟩
    | succ m ih =>
      intro i hi
      have e1 : (nI i).toNatClampNeg = i := nI_clamp (by omega)
      obtain ⟨x, hx, ex⟩ := i_of (N := 9999) (hth i (by omega)).1 (hth i (by omega)).2 (by decide)
      have ex2 : (sg 28 i).toNatClampNeg = x := by rw [ex]; exact nI_clamp (by omega)
      refine hG (fun q => q == 4) 60 _ _ _ _ (Nat.le_of_ble_eq_true rfl) ?_
      simp only [D_X7_missed, N_X7_missed, vcS, vcC, vcI, gtF, ptF, inS, inV, fv0, fv1, fv2, fv3, fw0, fw1, lg_0, lg_1, lg_2, lg_3, lg_4, lg_5, lg_6, lg_7, lg_8, lg_9, lg_10, lg_11, lg_12, lg_13, lg_14, lsq_0, lsl_0, lsq_1, lsl_1, lsq_2, lsl_2, lsq_3, lsl_3, lsq_4, lsl_4, lsq_5, lsl_5, lsq_6, lsl_6, lsq_7, lsl_7, lsq_8, lsl_8, lsq_9, lsl_9, lsq_10, lsl_10, lsq_11, lsl_11, lsq_12, lsl_12, lsq_13, lsl_13, lsq_14, lsl_14, tk_0, tk_1, tk_2, tk_3, tk_4, tk_5, tk_6, tk_7, tk_8, cs_n, cs_i, cs_l, cs_r, cs_u, nl, rt_s, rt_n, CST1, Nat.reduceAdd, Nat.reduceLeDiff, va_rf, rtOk, Bool.false_eq_true, Bool.true_eq_false, if_false, if_true, ite_true, ite_false, true_and, and_true, eq_self, ne_eq, not_false_eq_true, not_true_eq_false, false_implies, true_implies, and_self, reduceCtorEq, Nat.reduceBEq, Bool.or_false, Bool.false_or, Bool.or_true, Bool.true_or, if1_0, if1_1, if1_01, one_01, zer_01, lg_cmp_ge, lg_cmp_le, lg_cmp_gt, lg_cmp_lt, lg_cmp_eq, Classical.not_not, SHm hS, SHr hS, hN, e1, ex]
      refine ⟨fun h => absurd h (nI_ge (by omega) (by omega)), fun _ => ⟨vp_in_nI (by omega) (by decide), by omega, c_toldOf hS (by omega) hx ?_⟩⟩
      simp only [D_X7_missed, N_X7_missed, vcS, vcC, vcI, gtF, ptF, inS, inV, fv0, fv1, fv2, fv3, fw0, fw1, lg_0, lg_1, lg_2, lg_3, lg_4, lg_5, lg_6, lg_7, lg_8, lg_9, lg_10, lg_11, lg_12, lg_13, lg_14, lsq_0, lsl_0, lsq_1, lsl_1, lsq_2, lsl_2, lsq_3, lsl_3, lsq_4, lsl_4, lsq_5, lsl_5, lsq_6, lsl_6, lsq_7, lsl_7, lsq_8, lsl_8, lsq_9, lsl_9, lsq_10, lsl_10, lsq_11, lsl_11, lsq_12, lsl_12, lsq_13, lsl_13, lsq_14, lsl_14, tk_0, tk_1, tk_2, tk_3, tk_4, tk_5, tk_6, tk_7, tk_8, cs_n, cs_i, cs_l, cs_r, cs_u, nl, rt_s, rt_n, CST1, Nat.reduceAdd, Nat.reduceLeDiff, va_rf, rtOk, Bool.false_eq_true, Bool.true_eq_false, if_false, if_true, ite_true, ite_false, true_and, and_true, eq_self, ne_eq, not_false_eq_true, not_true_eq_false, false_implies, true_implies, and_self, reduceCtorEq, Nat.reduceBEq, Bool.or_false, Bool.false_or, Bool.or_true, Bool.true_or, if1_0, if1_1, if1_01, one_01, zer_01, lg_cmp_ge, lg_cmp_le, lg_cmp_gt, lg_cmp_lt, lg_cmp_eq, Classical.not_not, SHm hS, SHr hS, hN, e1, nI_1]
      have h9 := ih (i + 1) (by omega)
      rw [msC, ex2] at h9
      refine ⟨vp_in_nI (by omega) (by decide), fun q => ?_, fun q => ?_⟩
      · rw [if_neg (by simp only [i_le, i_lt] at *; omega)] at h9
        exact h9
      · rw [if_pos (by simp only [i_le, i_lt] at *; omega)] at h9
        exact h9
  refine hG (fun q => q == 4) 60 _ _ _ _ (Nat.le_of_ble_eq_true rfl) ?_
  simp only [D_X7_missed, N_X7_missed, vcS, vcC, vcI, gtF, ptF, inS, inV, fv0, fv1, fv2, fv3, fw0, fw1, lg_0, lg_1, lg_2, lg_3, lg_4, lg_5, lg_6, lg_7, lg_8, lg_9, lg_10, lg_11, lg_12, lg_13, lg_14, lsq_0, lsl_0, lsq_1, lsl_1, lsq_2, lsl_2, lsq_3, lsl_3, lsq_4, lsl_4, lsq_5, lsl_5, lsq_6, lsl_6, lsq_7, lsl_7, lsq_8, lsl_8, lsq_9, lsl_9, lsq_10, lsl_10, lsq_11, lsl_11, lsq_12, lsl_12, lsq_13, lsl_13, lsq_14, lsl_14, tk_0, tk_1, tk_2, tk_3, tk_4, tk_5, tk_6, tk_7, tk_8, cs_n, cs_i, cs_l, cs_r, cs_u, nl, rt_s, rt_n, CST1, Nat.reduceAdd, Nat.reduceLeDiff, va_rf, rtOk, Bool.false_eq_true, Bool.true_eq_false, if_false, if_true, ite_true, ite_false, true_and, and_true, eq_self, ne_eq, not_false_eq_true, not_true_eq_false, false_implies, true_implies, and_self, reduceCtorEq, Nat.reduceBEq, Bool.or_false, Bool.false_or, Bool.or_true, Bool.true_or, if1_0, if1_1, if1_01, one_01, zer_01, lg_cmp_ge, lg_cmp_le, lg_cmp_gt, lg_cmp_lt, lg_cmp_eq, Classical.not_not, SHm hS, SHr hS]
  exact loop N 0 (by omega)
set_option maxHeartbeats 4000000 in
set_option maxRecDepth 100000 in
theorem c_miss (hS : Sh mu ro) (hd : 4 ≤ d) (hN : sg 26 3 = nI N) (hN2 : N ≤ 200) (hth : ∀ j, j < N → i_bw (sg 28 j) 0 9999) (hk : K (some (.int (nI (msC (sg 27) (sg 28) (sg 29) N)))) sg) : aCall d 118 [.ref 0] n mu ro sg K := by
  refine aCall_start (mL := 1) (cc := cX11_miss) (o := 11) (ret := (some .int)) 0 (by decide) (by decide +kernel) rfl rfl rfl rfl (Nat.le_of_ble_eq_true rfl) (fun G hC hG => ?_)
  simp only [exL, List.cons_append, List.nil_append, rp_0, rp_1, rp_2, rp_3, rp_4, rp_5, rp_6, rp_7, rp_8, rp_9, rp_10, rp_11, List.append_nil]
  refine hG (fun _ => false) 60 _ _ _ _ (Nat.le_of_ble_eq_true rfl) ?_
  simp only [D_X11_miss, N_X11_miss, vcS, vcC, vcI, gtF, ptF, inS, inV, fv0, fv1, fv2, fv3, fw0, fw1, lg_0, lg_1, lg_2, lg_3, lg_4, lg_5, lg_6, lg_7, lg_8, lg_9, lg_10, lg_11, lg_12, lg_13, lg_14, lsq_0, lsl_0, lsq_1, lsl_1, lsq_2, lsl_2, lsq_3, lsl_3, lsq_4, lsl_4, lsq_5, lsl_5, lsq_6, lsl_6, lsq_7, lsl_7, lsq_8, lsl_8, lsq_9, lsl_9, lsq_10, lsl_10, lsq_11, lsl_11, lsq_12, lsl_12, lsq_13, lsl_13, lsq_14, lsl_14, tk_0, tk_1, tk_2, tk_3, tk_4, tk_5, tk_6, tk_7, tk_8, cs_n, cs_i, cs_l, cs_r, cs_u, nl, rt_s, rt_n, CST1, Nat.reduceAdd, Nat.reduceLeDiff, va_rf, rtOk, Bool.false_eq_true, Bool.true_eq_false, if_false, if_true, ite_true, ite_false, true_and, and_true, eq_self, ne_eq, not_false_eq_true, not_true_eq_false, false_implies, true_implies, and_self, reduceCtorEq, Nat.reduceBEq, Bool.or_false, Bool.false_or, Bool.or_true, Bool.true_or, if1_0, if1_1, if1_01, one_01, zer_01, lg_cmp_ge, lg_cmp_le, lg_cmp_gt, lg_cmp_lt, lg_cmp_eq, Classical.not_not, SHm hS, SHr hS]
  refine ⟨by omega, c_missed hS (by omega) hN hN2 hth ?_⟩
  simp only [D_X11_miss, N_X11_miss, vcS, vcC, vcI, gtF, ptF, inS, inV, fv0, fv1, fv2, fv3, fw0, fw1, lg_0, lg_1, lg_2, lg_3, lg_4, lg_5, lg_6, lg_7, lg_8, lg_9, lg_10, lg_11, lg_12, lg_13, lg_14, lsq_0, lsl_0, lsq_1, lsl_1, lsq_2, lsl_2, lsq_3, lsl_3, lsq_4, lsl_4, lsq_5, lsl_5, lsq_6, lsl_6, lsq_7, lsl_7, lsq_8, lsl_8, lsq_9, lsl_9, lsq_10, lsl_10, lsq_11, lsl_11, lsq_12, lsl_12, lsq_13, lsl_13, lsq_14, lsl_14, tk_0, tk_1, tk_2, tk_3, tk_4, tk_5, tk_6, tk_7, tk_8, cs_n, cs_i, cs_l, cs_r, cs_u, nl, rt_s, rt_n, CST1, Nat.reduceAdd, Nat.reduceLeDiff, va_rf, rtOk, Bool.false_eq_true, Bool.true_eq_false, if_false, if_true, ite_true, ite_false, true_and, and_true, eq_self, ne_eq, not_false_eq_true, not_true_eq_false, false_implies, true_implies, and_self, reduceCtorEq, Nat.reduceBEq, Bool.or_false, Bool.false_or, Bool.or_true, Bool.true_or, if1_0, if1_1, if1_01, one_01, zer_01, lg_cmp_ge, lg_cmp_le, lg_cmp_gt, lg_cmp_lt, lg_cmp_eq, Classical.not_not, SHm hS, SHr hS]
  exact hk
set_option maxHeartbeats 4000000 in
set_option maxRecDepth 100000 in
theorem m_miss (hS : Sh mu ro) (hd : 3 ≤ d) (hN : sg 48 33 = nI N) (hN2 : N ≤ 200) (hth : ∀ j, j < N → i_bw (sg 73 j) 0 9999) (hk : K (some (.int (nI (msC (sg 72) (sg 73) (sg 74) N)))) sg) : aCall d 212 [.ref 48] n mu ro sg K := by
  have z0 : ∀ x : Int32, x + 0 = x := fun x => Int32.add_zero x
  refine aCall_start (mL := 3) (cc := cX12_miss) (o := 12) (ret := (some .int)) 2 (by decide) (by decide +kernel) rfl rfl rfl rfl (Nat.le_of_ble_eq_true rfl) (fun G hC hG => ?_)
  simp only [exL, List.cons_append, List.nil_append, rp_0, rp_1, rp_2, rp_3, rp_4, rp_5, rp_6, rp_7, rp_8, rp_9, rp_10, rp_11, List.append_nil]
  have loop : ∀ (m i : Nat), i + m = N → AW G 3 n 0 0 mu ro sg 4 [.ref 48, .int (nI (msC (sg 72) (sg 73) (sg 74) i)), .int (nI i)] [] := by
    intro m
    induction m with
    | zero =>
      intro i hi
      have hi' : i = N := by omega
      subst hi'
      refine hG (fun q => q == 4) 60 _ _ _ _ (Nat.le_of_ble_eq_true rfl) ?_
      simp only [D_X12_miss, N_X12_miss, vcS, vcC, vcI, gtF, ptF, inS, inV, fv0, fv1, fv2, fv3, fw0, fw1, lg_0, lg_1, lg_2, lg_3, lg_4, lg_5, lg_6, lg_7, lg_8, lg_9, lg_10, lg_11, lg_12, lg_13, lg_14, lsq_0, lsl_0, lsq_1, lsl_1, lsq_2, lsl_2, lsq_3, lsl_3, lsq_4, lsl_4, lsq_5, lsl_5, lsq_6, lsl_6, lsq_7, lsl_7, lsq_8, lsl_8, lsq_9, lsl_9, lsq_10, lsl_10, lsq_11, lsl_11, lsq_12, lsl_12, lsq_13, lsl_13, lsq_14, lsl_14, tk_0, tk_1, tk_2, tk_3, tk_4, tk_5, tk_6, tk_7, tk_8, cs_n, cs_i, cs_l, cs_r, cs_u, nl, rt_s, rt_n, CST1, Nat.reduceAdd, Nat.reduceLeDiff, va_rf, rtOk, Bool.false_eq_true, Bool.true_eq_false, if_false, if_true, ite_true, ite_false, true_and, and_true, eq_self, ne_eq, not_false_eq_true, not_true_eq_false, false_implies, true_implies, and_self, reduceCtorEq, Nat.reduceBEq, Bool.or_false, Bool.false_or, Bool.or_true, Bool.true_or, if1_0, if1_1, if1_01, one_01, zer_01, lg_cmp_ge, lg_cmp_le, lg_cmp_gt, lg_cmp_lt, lg_cmp_eq, Classical.not_not, SHm hS, SHr hS, hN]
      exact ⟨fun _ => hk, fun h => absurd (nI_le (Nat.le_refl i) (by omega)) h⟩
    | succ m ih =>
      intro i hi
      have e1 : (nI i).toNatClampNeg = i := nI_clamp (by omega)
      obtain ⟨x, hx, ex⟩ := i_of (N := 9999) (hth i (by omega)).1 (hth i (by omega)).2 (by decide)
      have ex2 : (sg 73 i).toNatClampNeg = x := by rw [ex]; exact nI_clamp (by omega)
      refine hG (fun q => q == 4) 60 _ _ _ _ (Nat.le_of_ble_eq_true rfl) ?_
      simp only [D_X12_miss, N_X12_miss, vcS, vcC, vcI, gtF, ptF, inS, inV, fv0, fv1, fv2, fv3, fw0, fw1, lg_0, lg_1, lg_2, lg_3, lg_4, lg_5, lg_6, lg_7, lg_8, lg_9, lg_10, lg_11, lg_12, lg_13, lg_14, lsq_0, lsl_0, lsq_1, lsl_1, lsq_2, lsl_2, lsq_3, lsl_3, lsq_4, lsl_4, lsq_5, lsl_5, lsq_6, lsl_6, lsq_7, lsl_7, lsq_8, lsl_8, lsq_9, lsl_9, lsq_10, lsl_10, lsq_11, lsl_11, lsq_12, lsl_12, lsq_13, lsl_13, lsq_14, lsl_14, tk_0, tk_1, tk_2, tk_3, tk_4, tk_5, tk_6, tk_7, tk_8, cs_n, cs_i, cs_l, cs_r, cs_u, nl, rt_s, rt_n, CST1, Nat.reduceAdd, Nat.reduceLeDiff, va_rf, rtOk, Bool.false_eq_true, Bool.true_eq_false, if_false, if_true, ite_true, ite_false, true_and, and_true, eq_self, ne_eq, not_false_eq_true, not_true_eq_false, false_implies, true_implies, and_self, reduceCtorEq, Nat.reduceBEq, Bool.or_false, Bool.false_or, Bool.or_true, Bool.true_or, if1_0, if1_1, if1_01, one_01, zer_01, lg_cmp_ge, lg_cmp_le, lg_cmp_gt, lg_cmp_lt, lg_cmp_eq, Classical.not_not, SHm hS, SHr hS, hN, e1, ex]
      refine ⟨fun h => absurd h (nI_ge (by omega) (by omega)), fun _ => ⟨vp_in_nI (by omega) (by decide), by omega, m_toldOf hS (by omega) hx ?_⟩⟩
      simp only [D_X12_miss, N_X12_miss, vcS, vcC, vcI, gtF, ptF, inS, inV, fv0, fv1, fv2, fv3, fw0, fw1, lg_0, lg_1, lg_2, lg_3, lg_4, lg_5, lg_6, lg_7, lg_8, lg_9, lg_10, lg_11, lg_12, lg_13, lg_14, lsq_0, lsl_0, lsq_1, lsl_1, lsq_2, lsl_2, lsq_3, lsl_3, lsq_4, lsl_4, lsq_5, lsl_5, lsq_6, lsl_6, lsq_7, lsl_7, lsq_8, lsl_8, lsq_9, lsl_9, lsq_10, lsl_10, lsq_11, lsl_11, lsq_12, lsl_12, lsq_13, lsl_13, lsq_14, lsl_14, tk_0, tk_1, tk_2, tk_3, tk_4, tk_5, tk_6, tk_7, tk_8, cs_n, cs_i, cs_l, cs_r, cs_u, nl, rt_s, rt_n, CST1, Nat.reduceAdd, Nat.reduceLeDiff, va_rf, rtOk, Bool.false_eq_true, Bool.true_eq_false, if_false, if_true, ite_true, ite_false, true_and, and_true, eq_self, ne_eq, not_false_eq_true, not_true_eq_false, false_implies, true_implies, and_self, reduceCtorEq, Nat.reduceBEq, Bool.or_false, Bool.false_or, Bool.or_true, Bool.true_or, if1_0, if1_1, if1_01, one_01, zer_01, lg_cmp_ge, lg_cmp_le, lg_cmp_gt, lg_cmp_lt, lg_cmp_eq, Classical.not_not, SHm hS, SHr hS, hN, e1, nI_1, z0]
      have h9 := ih (i + 1) (by omega)
      rw [msC, ex2] at h9
      refine ⟨vp_in_nI (by omega) (by decide), fun q => ?_, fun q => ?_⟩
      · rw [if_neg (by simp only [i_le, i_lt] at *; omega)] at h9
        exact h9
      · rw [if_pos (by simp only [i_le, i_lt] at *; omega)] at h9
        exact h9
  refine hG (fun q => q == 4) 60 _ _ _ _ (Nat.le_of_ble_eq_true rfl) ?_
  simp only [D_X12_miss, N_X12_miss, vcS, vcC, vcI, gtF, ptF, inS, inV, fv0, fv1, fv2, fv3, fw0, fw1, lg_0, lg_1, lg_2, lg_3, lg_4, lg_5, lg_6, lg_7, lg_8, lg_9, lg_10, lg_11, lg_12, lg_13, lg_14, lsq_0, lsl_0, lsq_1, lsl_1, lsq_2, lsl_2, lsq_3, lsl_3, lsq_4, lsl_4, lsq_5, lsl_5, lsq_6, lsl_6, lsq_7, lsl_7, lsq_8, lsl_8, lsq_9, lsl_9, lsq_10, lsl_10, lsq_11, lsl_11, lsq_12, lsl_12, lsq_13, lsl_13, lsq_14, lsl_14, tk_0, tk_1, tk_2, tk_3, tk_4, tk_5, tk_6, tk_7, tk_8, cs_n, cs_i, cs_l, cs_r, cs_u, nl, rt_s, rt_n, CST1, Nat.reduceAdd, Nat.reduceLeDiff, va_rf, rtOk, Bool.false_eq_true, Bool.true_eq_false, if_false, if_true, ite_true, ite_false, true_and, and_true, eq_self, ne_eq, not_false_eq_true, not_true_eq_false, false_implies, true_implies, and_self, reduceCtorEq, Nat.reduceBEq, Bool.or_false, Bool.false_or, Bool.or_true, Bool.true_or, if1_0, if1_1, if1_01, one_01, zer_01, lg_cmp_ge, lg_cmp_le, lg_cmp_gt, lg_cmp_lt, lg_cmp_eq, Classical.not_not, SHm hS, SHr hS]
  exact loop N 0 (by omega)
theorem msC_congr {f g th th' t t' : Nat → Int32} (h1 : ∀ j, j < 48 → f j = g j) : ∀ m, (∀ j, j < m → th j = th' j ∧ t j = t' j) → msC f th t m = msC g th' t' m
  | 0, _ => rfl
  | m + 1, h => by
    unfold msC
    rw [msC_congr h1 m (fun j hj => h j (by omega)), (h m (by omega)).1, (h m (by omega)).2, tdF_congr h1]
set_option maxHeartbeats 4000000 in
set_option maxRecDepth 100000 in
theorem b_miss (hS : Sh mu ro) (hd : 4 ≤ d) (hI : I_sk sg N) (hk : ∀ r, K r sg) : aCall d 118 [.ref 0] n mu ro sg (fun r1 sg1 => aCall d 212 [.ref 48] n mu ro sg1 (fun r2 sg2 => r1 = r2 ∧ K r1 sg2)) := by
  obtain ⟨i1, ⟨i2, i3⟩, i4, i5, i6⟩ := id hI
  refine c_miss hS hd i2 i4 (fun j hj => by rw [(i5 j hj).1]; exact (i5 j hj).2.1) (m_miss hS (by omega) i3 i4 (fun j hj => (i5 j hj).2.1) ⟨?_, hk _⟩)
  rw [msC_congr i1 N (fun j hj => ⟨(i5 j hj).1, (i5 j hj).2.2⟩)]
-- sheets: what is known of one of them
theorem sh_of {s : aS} (h : I_sh s) {k : Nat} (hk : k < 4) : I_sh1 s (40 + 2 * k) (41 + 2 * k) k := by
  obtain ⟨-, h0, h1, h2, h3⟩ := h
  match k, hk with
  | 0, _ => exact h0
  | 1, _ => exact h1
  | 2, _ => exact h2
  | 3, _ => exact h3
theorem sh_to {s : aS} (h : s 0 14 = s 48 0) (hk : ∀ k, k < 4 → I_sh1 s (40 + 2 * k) (41 + 2 * k) k) : I_sh s := ⟨h, hk 0 (by decide), hk 1 (by decide), hk 2 (by decide), hk 3 (by decide)⟩
theorem sh1_fr {s s' : aS} {a b k : Nat} (h : I_sh1 s a b k) (ha : ∀ j, s' a j = s a j) (hb : ∀ j, s' b j = s b j) (h1 : s' 85 k = s 85 k) (h2 : s' 86 k = s 86 k) (h3 : ∀ i : Nat, (i : Int) < (s 85 k).toInt → s' 87 (60 * k + i) = s 87 (60 * k + i)) : I_sh1 s' a b k := by
  unfold I_sh1 at *
  simp only [ha, hb, h1, h2]
  rcases h with h | ⟨g1, g2, g3, g4, g5, g6⟩
  · exact Or.inl h
  · exact Or.inr ⟨g1, g2, g3, g4, g5, fun i hi => by rw [h3 i hi]; exact g6 i hi⟩
theorem I_sh.fr {s s' : aS} (h : I_sh s) (hf : ∀ a k, reg a k = 11 → s' a k = s a k) (hf2 : s' 0 14 = s' 48 0) : I_sh s' := by
  refine sh_to hf2 (fun k hk => sh1_fr (sh_of h hk) (fun j => hf _ j ?_) (fun j => hf _ j ?_) (hf 85 k rfl) (hf 86 k rfl) (fun i _ => hf 87 _ rfl))
  · match k, hk with
    | 0, _ => rfl
    | 1, _ => rfl
    | 2, _ => rfl
    | 3, _ => rfl
  · match k, hk with
    | 0, _ => rfl
    | 1, _ => rfl
    | 2, _ => rfl
    | 3, _ => rfl
end H22
