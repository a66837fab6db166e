/-! part 70: chains: the reference's findings -/
section H70
variable {d n N T Q F : Nat} {mu : aM} {ro : aR} {sg σ : aS} {K : Option Value → aS → Prop} {rw_ vd mc tk lk : Nat → Int32} {ft : Nat → Nat}
def M_ch (s : aS) (F : Nat) (rw_ vd mc tk : Nat → Int32) (ft : Nat → Nat) : Prop := s 48 21 = nI F ∧ F ≤ 40 ∧ ∀ f, f < F → s 65 f = rw_ f ∧ s 66 f = nI (ft f) ∧ ft f < 8 ∧ s 56 (ft f) = mc f ∧ s 67 f = tk f ∧ s 68 f = vd f
set_option maxHeartbeats 4000000 in
set_option maxRecDepth 100000 in
theorem m_findAfter {r m t : Int32} {u : Int64} (hS : Sh mu ro) (hM : M_ch sg F rw_ vd mc tk ft) (hu : jl (sg 48 129) (sg 48 229) = u) (hk : K (some (.int (erB (erF rw_ vd mc tk r m t u F)))) sg) : aCall d 197 [.ref 48, .int m, .int r, .int t] n mu ro sg K := by
  obtain ⟨hF, hF2, hf⟩ := hM
  refine aCall_start (mL := 7) (cc := cX12_findAfter) (o := 12) (ret := (some .int)) 3 (by decide) (by decide +kernel) rfl rfl rfl rfl (Nat.le_of_ble_eq_true rfl) (fun G hC hG => ?_)
  simp only [exL, List.cons_append, List.nil_append, rp_0, rp_1, rp_2, rp_3, rp_4, rp_5, rp_6, rp_7, rp_8, rp_9, rp_10, rp_11, List.append_nil]
  have lo : ∀ (mm f : Nat) (v6 : Value), f + mm = F → AW G 7 n 0 0 mu ro sg 7 [.ref 48, .int m, .int r, .int t, .int (erB (erF rw_ vd mc tk r m t u f)), .int (nI f), v6] [] := by
    intro mm
    induction mm with
    | zero =>
      intro f v6 hi
      have hc : (nI F ≤ nI f) = True := eq_true (nI_le (by omega) (by omega))
      have : f = F := by omega
      subst this
      refine hG (fun q => q == 7) 80 _ _ _ _ (Nat.le_of_ble_eq_true rfl) ?_
      simp only [D_X12_findAfter, ↓reduceIte, vcS, vcC, vcI, gtF, ptF, inS, inV, fv0, fv1, fv2, fv3, fw0, fw1, lg_0, lg_1, lg_2, lg_3, lg_4, lg_5, lg_6, lg_7, lg_8, lg_9, lg_10, lg_11, lg_12, lg_13, lg_14, lsq_0, lsl_0, lsq_1, lsl_1, lsq_2, lsl_2, lsq_3, lsl_3, lsq_4, lsl_4, lsq_5, lsl_5, lsq_6, lsl_6, lsq_7, lsl_7, lsq_8, lsl_8, lsq_9, lsl_9, lsq_10, lsl_10, lsq_11, lsl_11, lsq_12, lsl_12, lsq_13, lsl_13, lsq_14, lsl_14, tk_0, tk_1, tk_2, tk_3, tk_4, tk_5, tk_6, tk_7, tk_8, cs_n, cs_i, cs_l, cs_r, cs_u, nl, rt_s, rt_n, CST1, Nat.reduceAdd, Nat.reduceLeDiff, va_rf, rtOk, Bool.false_eq_true, Bool.true_eq_false, if_false, if_true, ite_true, ite_false, true_and, and_true, eq_self, ne_eq, not_false_eq_true, not_true_eq_false, false_implies, true_implies, and_self, reduceCtorEq, Nat.reduceBEq, Bool.or_false, Bool.false_or, Bool.or_true, Bool.true_or, if1_0, if1_1, if1_01, one_01, zer_01, lg_cmp_ge, lg_cmp_le, lg_cmp_gt, lg_cmp_lt, lg_cmp_eq, Classical.not_not, SHm hS, SHr hS, hF, ↓im_T hc, ↓im_TN hc, hc]
      exact hk
    | succ mm ih =>
      intro f v6 hi
      have hc : (nI F ≤ nI f) = False := eq_false (nI_ge (by omega) (by omega))
      have ei : (nI f).toNatClampNeg = f := nI_clamp (by omega)
      have vi : vp_in (nI f) 40 := vp_in_nI (by omega) (by decide)
      obtain ⟨f1, f2, f3, f4, f5, f6⟩ := hf f (by omega)
      have eq : (nI (ft f)).toNatClampNeg = ft f := nI_clamp (by omega)
      have vq : vp_in (nI (ft f)) 8 := vp_in_nI f3 (by decide)
      have no : ¬ erC rw_ vd mc tk r m t u f → ∀ v6, AW G 7 n 0 0 mu ro sg 7 [.ref 48, .int m, .int r, .int t, .int (erB (erF rw_ vd mc tk r m t u f)), .int (nI (f + 1)), v6] [] := by
        intro q v6
        have n1 := ih (f + 1) v6 (by omega)
        rw [er_n q] at n1
        exact n1
      by_cases a3 : rw_ f = r
      · have b3 := eq_true a3
        by_cases a2 : vd f = 1
        · have b2 := eq_true a2
          refine hG (fun q => q == 7) 80 _ _ _ _ (Nat.le_of_ble_eq_true rfl) ?_
          simp only [D_X12_findAfter, ↓reduceIte, vcS, vcC, vcI, gtF, ptF, inS, inV, fv0, fv1, fv2, fv3, fw0, fw1, lg_0, lg_1, lg_2, lg_3, lg_4, lg_5, lg_6, lg_7, lg_8, lg_9, lg_10, lg_11, lg_12, lg_13, lg_14, lsq_0, lsl_0, lsq_1, lsl_1, lsq_2, lsl_2, lsq_3, lsl_3, lsq_4, lsl_4, lsq_5, lsl_5, lsq_6, lsl_6, lsq_7, lsl_7, lsq_8, lsl_8, lsq_9, lsl_9, lsq_10, lsl_10, lsq_11, lsl_11, lsq_12, lsl_12, lsq_13, lsl_13, lsq_14, lsl_14, tk_0, tk_1, tk_2, tk_3, tk_4, tk_5, tk_6, tk_7, tk_8, cs_n, cs_i, cs_l, cs_r, cs_u, nl, rt_s, rt_n, CST1, Nat.reduceAdd, Nat.reduceLeDiff, va_rf, rtOk, Bool.false_eq_true, Bool.true_eq_false, if_false, if_true, ite_true, ite_false, true_and, and_true, eq_self, ne_eq, not_false_eq_true, not_true_eq_false, false_implies, true_implies, and_self, reduceCtorEq, Nat.reduceBEq, Bool.or_false, Bool.false_or, Bool.or_true, Bool.true_or, if1_0, if1_1, if1_01, one_01, zer_01, lg_cmp_ge, lg_cmp_le, lg_cmp_gt, lg_cmp_lt, lg_cmp_eq, Classical.not_not, SHm hS, SHr hS, hF, ↓im_F hc, ↓im_FN hc, hc, ei, vi, f1, f6, b3, b2, nI_1]
          exact no (fun z => z.2.1 a2) _
        · have b2 := eq_false a2
          by_cases a4 : mc f = m
          · have b4 := eq_true a4
            by_cases a5 : tk f < t
            · have b5 := eq_true a5
              refine hG (fun q => q == 7) 80 _ _ _ _ (Nat.le_of_ble_eq_true rfl) ?_
              simp only [D_X12_findAfter, ↓reduceIte, vcS, vcC, vcI, gtF, ptF, inS, inV, fv0, fv1, fv2, fv3, fw0, fw1, lg_0, lg_1, lg_2, lg_3, lg_4, lg_5, lg_6, lg_7, lg_8, lg_9, lg_10, lg_11, lg_12, lg_13, lg_14, lsq_0, lsl_0, lsq_1, lsl_1, lsq_2, lsl_2, lsq_3, lsl_3, lsq_4, lsl_4, lsq_5, lsl_5, lsq_6, lsl_6, lsq_7, lsl_7, lsq_8, lsl_8, lsq_9, lsl_9, lsq_10, lsl_10, lsq_11, lsl_11, lsq_12, lsl_12, lsq_13, lsl_13, lsq_14, lsl_14, tk_0, tk_1, tk_2, tk_3, tk_4, tk_5, tk_6, tk_7, tk_8, cs_n, cs_i, cs_l, cs_r, cs_u, nl, rt_s, rt_n, CST1, Nat.reduceAdd, Nat.reduceLeDiff, va_rf, rtOk, Bool.false_eq_true, Bool.true_eq_false, if_false, if_true, ite_true, ite_false, true_and, and_true, eq_self, ne_eq, not_false_eq_true, not_true_eq_false, false_implies, true_implies, and_self, reduceCtorEq, Nat.reduceBEq, Bool.or_false, Bool.false_or, Bool.or_true, Bool.true_or, if1_0, if1_1, if1_01, one_01, zer_01, lg_cmp_ge, lg_cmp_le, lg_cmp_gt, lg_cmp_lt, lg_cmp_eq, Classical.not_not, SHm hS, SHr hS, hF, ↓im_F hc, ↓im_FN hc, hc, ei, vi, f1, f6, f2, eq, vq, f4, f5, b3, b2, b4, b5, nI_1]
              exact no (fun z => z.2.2.2.2 a5) _
            · have b5 := eq_false a5
              by_cases a1 : frO u f
              · have b1 := eq_true a1
                have q : erC rw_ vd mc tk r m t u f := ⟨a1, a2, a3, a4, a5⟩
                cases e : erF rw_ vd mc tk r m t u f with
                | none =>
                  have n1 := fun v6 => ih (f + 1) v6 (by omega)
                  rw [er_0 q e] at n1
                  have z9 : (erB none < 0) = True := eq_true (by decide)
                  refine hG (fun q => q == 7) 80 _ _ _ _ (Nat.le_of_ble_eq_true rfl) ?_
                  simp only [D_X12_findAfter, ↓reduceIte, vcS, vcC, vcI, gtF, ptF, inS, inV, fv0, fv1, fv2, fv3, fw0, fw1, lg_0, lg_1, lg_2, lg_3, lg_4, lg_5, lg_6, lg_7, lg_8, lg_9, lg_10, lg_11, lg_12, lg_13, lg_14, lsq_0, lsl_0, lsq_1, lsl_1, lsq_2, lsl_2, lsq_3, lsl_3, lsq_4, lsl_4, lsq_5, lsl_5, lsq_6, lsl_6, lsq_7, lsl_7, lsq_8, lsl_8, lsq_9, lsl_9, lsq_10, lsl_10, lsq_11, lsl_11, lsq_12, lsl_12, lsq_13, lsl_13, lsq_14, lsl_14, tk_0, tk_1, tk_2, tk_3, tk_4, tk_5, tk_6, tk_7, tk_8, cs_n, cs_i, cs_l, cs_r, cs_u, nl, rt_s, rt_n, CST1, Nat.reduceAdd, Nat.reduceLeDiff, va_rf, rtOk, Bool.false_eq_true, Bool.true_eq_false, if_false, if_true, ite_true, ite_false, true_and, and_true, eq_self, ne_eq, not_false_eq_true, not_true_eq_false, false_implies, true_implies, and_self, reduceCtorEq, Nat.reduceBEq, Bool.or_false, Bool.false_or, Bool.or_true, Bool.true_or, if1_0, if1_1, if1_01, one_01, zer_01, lg_cmp_ge, lg_cmp_le, lg_cmp_gt, lg_cmp_lt, lg_cmp_eq, Classical.not_not, SHm hS, SHr hS, hF, ↓im_F hc, ↓im_FN hc, hc, ei, vi, f1, f6, f2, eq, vq, f4, f5, b3, b2, b4, b5, hu, b1, z10, z9, nI_1]
                  exact n1 _
                | some b =>
                  have n1 := fun v6 => ih (f + 1) v6 (by omega)
                  rw [er_s q e] at n1
                  have hb := er_lt f b e
                  have eb : (nI b).toNatClampNeg = b := nI_clamp (by omega)
                  have vb : vp_in (nI b) 40 := vp_in_nI (by omega) (by decide)
                  have e2 : erB (some b) = nI b := rfl
                  have z9 : (nI b < 0) = False := nI_lt0 (by omega)
                  have g3 := (hf b (by omega)).2.2.2.2.1
                  rw [e2]
                  refine hG (fun q => q == 7) 80 _ _ _ _ (Nat.le_of_ble_eq_true rfl) ?_
                  simp only [D_X12_findAfter, ↓reduceIte, vcS, vcC, vcI, gtF, ptF, inS, inV, fv0, fv1, fv2, fv3, fw0, fw1, lg_0, lg_1, lg_2, lg_3, lg_4, lg_5, lg_6, lg_7, lg_8, lg_9, lg_10, lg_11, lg_12, lg_13, lg_14, lsq_0, lsl_0, lsq_1, lsl_1, lsq_2, lsl_2, lsq_3, lsl_3, lsq_4, lsl_4, lsq_5, lsl_5, lsq_6, lsl_6, lsq_7, lsl_7, lsq_8, lsl_8, lsq_9, lsl_9, lsq_10, lsl_10, lsq_11, lsl_11, lsq_12, lsl_12, lsq_13, lsl_13, lsq_14, lsl_14, tk_0, tk_1, tk_2, tk_3, tk_4, tk_5, tk_6, tk_7, tk_8, cs_n, cs_i, cs_l, cs_r, cs_u, nl, rt_s, rt_n, CST1, Nat.reduceAdd, Nat.reduceLeDiff, va_rf, rtOk, Bool.false_eq_true, Bool.true_eq_false, if_false, if_true, ite_true, ite_false, true_and, and_true, eq_self, ne_eq, not_false_eq_true, not_true_eq_false, false_implies, true_implies, and_self, reduceCtorEq, Nat.reduceBEq, Bool.or_false, Bool.false_or, Bool.or_true, Bool.true_or, if1_0, if1_1, if1_01, one_01, zer_01, lg_cmp_ge, lg_cmp_le, lg_cmp_gt, lg_cmp_lt, lg_cmp_eq, Classical.not_not, SHm hS, SHr hS, hF, ↓im_F hc, ↓im_FN hc, hc, ei, vi, f1, f6, f2, eq, vq, f4, f5, b3, b2, b4, b5, hu, b1, z10, z9, eb, vb, g3, nI_1]
                  refine ⟨fun g => ?_, fun g => ?_⟩
                  · rw [if_pos g] at n1; exact n1 _
                  · rw [if_neg g] at n1; exact n1 _
              · have b1 := eq_false a1
                refine hG (fun q => q == 7) 80 _ _ _ _ (Nat.le_of_ble_eq_true rfl) ?_
                simp only [D_X12_findAfter, ↓reduceIte, vcS, vcC, vcI, gtF, ptF, inS, inV, fv0, fv1, fv2, fv3, fw0, fw1, lg_0, lg_1, lg_2, lg_3, lg_4, lg_5, lg_6, lg_7, lg_8, lg_9, lg_10, lg_11, lg_12, lg_13, lg_14, lsq_0, lsl_0, lsq_1, lsl_1, lsq_2, lsl_2, lsq_3, lsl_3, lsq_4, lsl_4, lsq_5, lsl_5, lsq_6, lsl_6, lsq_7, lsl_7, lsq_8, lsl_8, lsq_9, lsl_9, lsq_10, lsl_10, lsq_11, lsl_11, lsq_12, lsl_12, lsq_13, lsl_13, lsq_14, lsl_14, tk_0, tk_1, tk_2, tk_3, tk_4, tk_5, tk_6, tk_7, tk_8, cs_n, cs_i, cs_l, cs_r, cs_u, nl, rt_s, rt_n, CST1, Nat.reduceAdd, Nat.reduceLeDiff, va_rf, rtOk, Bool.false_eq_true, Bool.true_eq_false, if_false, if_true, ite_true, ite_false, true_and, and_true, eq_self, ne_eq, not_false_eq_true, not_true_eq_false, false_implies, true_implies, and_self, reduceCtorEq, Nat.reduceBEq, Bool.or_false, Bool.false_or, Bool.or_true, Bool.true_or, if1_0, if1_1, if1_01, one_01, zer_01, lg_cmp_ge, lg_cmp_le, lg_cmp_gt, lg_cmp_lt, lg_cmp_eq, Classical.not_not, SHm hS, SHr hS, hF, ↓im_F hc, ↓im_FN hc, hc, ei, vi, f1, f6, f2, eq, vq, f4, f5, b3, b2, b4, b5, hu, b1, nI_1]
                exact no (fun z => a1 z.1) _
          · have b4 := eq_false a4
            refine hG (fun q => q == 7) 80 _ _ _ _ (Nat.le_of_ble_eq_true rfl) ?_
            simp only [D_X12_findAfter, ↓reduceIte, vcS, vcC, vcI, gtF, ptF, inS, inV, fv0, fv1, fv2, fv3, fw0, fw1, lg_0, lg_1, lg_2, lg_3, lg_4, lg_5, lg_6, lg_7, lg_8, lg_9, lg_10, lg_11, lg_12, lg_13, lg_14, lsq_0, lsl_0, lsq_1, lsl_1, lsq_2, lsl_2, lsq_3, lsl_3, lsq_4, lsl_4, lsq_5, lsl_5, lsq_6, lsl_6, lsq_7, lsl_7, lsq_8, lsl_8, lsq_9, lsl_9, lsq_10, lsl_10, lsq_11, lsl_11, lsq_12, lsl_12, lsq_13, lsl_13, lsq_14, lsl_14, tk_0, tk_1, tk_2, tk_3, tk_4, tk_5, tk_6, tk_7, tk_8, cs_n, cs_i, cs_l, cs_r, cs_u, nl, rt_s, rt_n, CST1, Nat.reduceAdd, Nat.reduceLeDiff, va_rf, rtOk, Bool.false_eq_true, Bool.true_eq_false, if_false, if_true, ite_true, ite_false, true_and, and_true, eq_self, ne_eq, not_false_eq_true, not_true_eq_false, false_implies, true_implies, and_self, reduceCtorEq, Nat.reduceBEq, Bool.or_false, Bool.false_or, Bool.or_true, Bool.true_or, if1_0, if1_1, if1_01, one_01, zer_01, lg_cmp_ge, lg_cmp_le, lg_cmp_gt, lg_cmp_lt, lg_cmp_eq, Classical.not_not, SHm hS, SHr hS, hF, ↓im_F hc, ↓im_FN hc, hc, ei, vi, f1, f6, f2, eq, vq, f4, b3, b2, b4, nI_1]
            exact no (fun z => a4 z.2.2.2.1) _
      · have b3 := eq_false a3
        refine hG (fun q => q == 7) 80 _ _ _ _ (Nat.le_of_ble_eq_true rfl) ?_
        simp only [D_X12_findAfter, ↓reduceIte, vcS, vcC, vcI, gtF, ptF, inS, inV, fv0, fv1, fv2, fv3, fw0, fw1, lg_0, lg_1, lg_2, lg_3, lg_4, lg_5, lg_6, lg_7, lg_8, lg_9, lg_10, lg_11, lg_12, lg_13, lg_14, lsq_0, lsl_0, lsq_1, lsl_1, lsq_2, lsl_2, lsq_3, lsl_3, lsq_4, lsl_4, lsq_5, lsl_5, lsq_6, lsl_6, lsq_7, lsl_7, lsq_8, lsl_8, lsq_9, lsl_9, lsq_10, lsl_10, lsq_11, lsl_11, lsq_12, lsl_12, lsq_13, lsl_13, lsq_14, lsl_14, tk_0, tk_1, tk_2, tk_3, tk_4, tk_5, tk_6, tk_7, tk_8, cs_n, cs_i, cs_l, cs_r, cs_u, nl, rt_s, rt_n, CST1, Nat.reduceAdd, Nat.reduceLeDiff, va_rf, rtOk, Bool.false_eq_true, Bool.true_eq_false, if_false, if_true, ite_true, ite_false, true_and, and_true, eq_self, ne_eq, not_false_eq_true, not_true_eq_false, false_implies, true_implies, and_self, reduceCtorEq, Nat.reduceBEq, Bool.or_false, Bool.false_or, Bool.or_true, Bool.true_or, if1_0, if1_1, if1_01, one_01, zer_01, lg_cmp_ge, lg_cmp_le, lg_cmp_gt, lg_cmp_lt, lg_cmp_eq, Classical.not_not, SHm hS, SHr hS, hF, ↓im_F hc, ↓im_FN hc, hc, ei, vi, f1, b3, nI_1]
        exact no (fun z => a3 z.2.2.1) _
  refine hG (fun q => q == 7) 80 _ _ _ _ (Nat.le_of_ble_eq_true rfl) ?_
  simp only [D_X12_findAfter, ↓reduceIte, vcS, vcC, vcI, gtF, ptF, inS, inV, fv0, fv1, fv2, fv3, fw0, fw1, lg_0, lg_1, lg_2, lg_3, lg_4, lg_5, lg_6, lg_7, lg_8, lg_9, lg_10, lg_11, lg_12, lg_13, lg_14, lsq_0, lsl_0, lsq_1, lsl_1, lsq_2, lsl_2, lsq_3, lsl_3, lsq_4, lsl_4, lsq_5, lsl_5, lsq_6, lsl_6, lsq_7, lsl_7, lsq_8, lsl_8, lsq_9, lsl_9, lsq_10, lsl_10, lsq_11, lsl_11, lsq_12, lsl_12, lsq_13, lsl_13, lsq_14, lsl_14, tk_0, tk_1, tk_2, tk_3, tk_4, tk_5, tk_6, tk_7, tk_8, cs_n, cs_i, cs_l, cs_r, cs_u, nl, rt_s, rt_n, CST1, Nat.reduceAdd, Nat.reduceLeDiff, va_rf, rtOk, Bool.false_eq_true, Bool.true_eq_false, if_false, if_true, ite_true, ite_false, true_and, and_true, eq_self, ne_eq, not_false_eq_true, not_true_eq_false, false_implies, true_implies, and_self, reduceCtorEq, Nat.reduceBEq, Bool.or_false, Bool.false_or, Bool.or_true, Bool.true_or, if1_0, if1_1, if1_01, one_01, zer_01, lg_cmp_ge, lg_cmp_le, lg_cmp_gt, lg_cmp_lt, lg_cmp_eq, Classical.not_not]
  exact lo F 0 _ (by omega)
end H70
