/-! part 58: looks, look on both sides -/
section H58
variable {d n N T Q F : Nat} {mu : aM} {ro : aR} {sg : aS} {K : Option Value → aS → Prop} {tb rb : Nat → Nat}
set_option maxHeartbeats 4000000 in
set_option maxRecDepth 100000 in
theorem c_looks {x y : Int32} (hS : Sh mu ro) (hd : 2 ≤ d) (hk1 : ¬ (0 ≤ x.toInt ∧ x.toInt ≤ 3) → K (some (.int (-1))) sg) (hk2 : (0 ≤ x.toInt ∧ x.toInt ≤ 3) → ¬ (0 ≤ y.toInt ∧ y.toInt ≤ 1) → K (some (.int (-2))) sg) (hk3 : ∀ k : Nat, k < 4 → x = nI k → (0 ≤ y.toInt ∧ y.toInt ≤ 1) → K (some (.int (if y = 0 then sg 37 k else sg 38 k))) sg) : aCall d 132 [.ref 0, .int x, .int y] n mu ro sg K := by
  refine aCall_start (mL := 3) (cc := cX11_looks) (o := 11) (ret := (some .int)) 0 (by decide) (by decide +kernel) rfl rfl rfl rfl (Nat.le_of_ble_eq_true rfl) (fun G hC hG => ?_)
  simp only [exL, List.cons_append, List.nil_append, rp_0, rp_1, rp_2, rp_3, rp_4, rp_5, rp_6, rp_7, rp_8, rp_9, rp_10, rp_11, List.append_nil]
  refine hG (fun _ => false) 60 _ _ _ _ (Nat.le_of_ble_eq_true rfl) ?_
  simp only [D_X11_looks, ↓reduceIte, vcS, vcC, vcI, gtF, ptF, inS, inV, fv0, fv1, fv2, fv3, fw0, fw1, lg_0, lg_1, lg_2, lg_3, lg_4, lg_5, lg_6, lg_7, lg_8, lg_9, lg_10, lg_11, lg_12, lg_13, lg_14, lsq_0, lsl_0, lsq_1, lsl_1, lsq_2, lsl_2, lsq_3, lsl_3, lsq_4, lsl_4, lsq_5, lsl_5, lsq_6, lsl_6, lsq_7, lsl_7, lsq_8, lsl_8, lsq_9, lsl_9, lsq_10, lsl_10, lsq_11, lsl_11, lsq_12, lsl_12, lsq_13, lsl_13, lsq_14, lsl_14, tk_0, tk_1, tk_2, tk_3, tk_4, tk_5, tk_6, tk_7, tk_8, cs_n, cs_i, cs_l, cs_r, cs_u, nl, rt_s, rt_n, CST1, Nat.reduceAdd, Nat.reduceLeDiff, va_rf, rtOk, Bool.false_eq_true, Bool.true_eq_false, if_false, if_true, ite_true, ite_false, true_and, and_true, eq_self, ne_eq, not_false_eq_true, not_true_eq_false, false_implies, true_implies, and_self, reduceCtorEq, Nat.reduceBEq, Bool.or_false, Bool.false_or, Bool.or_true, Bool.true_or, if1_0, if1_1, if1_01, one_01, zer_01, lg_cmp_ge, lg_cmp_le, lg_cmp_gt, lg_cmp_lt, lg_cmp_eq, Classical.not_not, SHm hS, SHr hS]
  refine ⟨by omega, c_isIn ?_⟩
  simp only [D_X11_looks, ↓reduceIte, vcS, vcC, vcI, gtF, ptF, inS, inV, fv0, fv1, fv2, fv3, fw0, fw1, lg_0, lg_1, lg_2, lg_3, lg_4, lg_5, lg_6, lg_7, lg_8, lg_9, lg_10, lg_11, lg_12, lg_13, lg_14, lsq_0, lsl_0, lsq_1, lsl_1, lsq_2, lsl_2, lsq_3, lsl_3, lsq_4, lsl_4, lsq_5, lsl_5, lsq_6, lsl_6, lsq_7, lsl_7, lsq_8, lsl_8, lsq_9, lsl_9, lsq_10, lsl_10, lsq_11, lsl_11, lsq_12, lsl_12, lsq_13, lsl_13, lsq_14, lsl_14, tk_0, tk_1, tk_2, tk_3, tk_4, tk_5, tk_6, tk_7, tk_8, cs_n, cs_i, cs_l, cs_r, cs_u, nl, rt_s, rt_n, CST1, Nat.reduceAdd, Nat.reduceLeDiff, va_rf, rtOk, Bool.false_eq_true, Bool.true_eq_false, if_false, if_true, ite_true, ite_false, true_and, and_true, eq_self, ne_eq, not_false_eq_true, not_true_eq_false, false_implies, true_implies, and_self, reduceCtorEq, Nat.reduceBEq, Bool.or_false, Bool.false_or, Bool.or_true, Bool.true_or, if1_0, if1_1, if1_01, one_01, zer_01, lg_cmp_ge, lg_cmp_le, lg_cmp_gt, lg_cmp_lt, lg_cmp_eq, Classical.not_not, SHm hS, SHr hS, LIT1]
  refine ⟨fun q => ⟨by omega, c_isIn ?_⟩, fun q => hk1 q⟩
  simp only [D_X11_looks, ↓reduceIte, vcS, vcC, vcI, gtF, ptF, inS, inV, fv0, fv1, fv2, fv3, fw0, fw1, lg_0, lg_1, lg_2, lg_3, lg_4, lg_5, lg_6, lg_7, lg_8, lg_9, lg_10, lg_11, lg_12, lg_13, lg_14, lsq_0, lsl_0, lsq_1, lsl_1, lsq_2, lsl_2, lsq_3, lsl_3, lsq_4, lsl_4, lsq_5, lsl_5, lsq_6, lsl_6, lsq_7, lsl_7, lsq_8, lsl_8, lsq_9, lsl_9, lsq_10, lsl_10, lsq_11, lsl_11, lsq_12, lsl_12, lsq_13, lsl_13, lsq_14, lsl_14, tk_0, tk_1, tk_2, tk_3, tk_4, tk_5, tk_6, tk_7, tk_8, cs_n, cs_i, cs_l, cs_r, cs_u, nl, rt_s, rt_n, CST1, Nat.reduceAdd, Nat.reduceLeDiff, va_rf, rtOk, Bool.false_eq_true, Bool.true_eq_false, if_false, if_true, ite_true, ite_false, true_and, and_true, eq_self, ne_eq, not_false_eq_true, not_true_eq_false, false_implies, true_implies, and_self, reduceCtorEq, Nat.reduceBEq, Bool.or_false, Bool.false_or, Bool.or_true, Bool.true_or, if1_0, if1_1, if1_01, one_01, zer_01, lg_cmp_ge, lg_cmp_le, lg_cmp_gt, lg_cmp_lt, lg_cmp_eq, Classical.not_not, SHm hS, SHr hS, LIT1]
  refine ⟨fun q2 => ?_, fun q2 => hk2 q q2⟩
  obtain ⟨k, hk4, rfl⟩ := k_of q
  have ek : (nI k).toNatClampNeg = k := nI_clamp (by omega)
  have vk : vp_in (nI k) 4 := vp_in_nI hk4 (by decide)
  have hk5 := hk3 k hk4 rfl q2
  rw [ek]
  refine ⟨fun g => ⟨vk, ?_⟩, fun g => ⟨vk, ?_⟩⟩
  · rw [if_neg g] at hk5; exact hk5
  · rw [if_pos g] at hk5; exact hk5
set_option maxHeartbeats 4000000 in
set_option maxRecDepth 100000 in
theorem m_looks {x y : Int32} (hS : Sh mu ro) (hd : 2 ≤ d) (hN : sg 48 47 = nI N) (hN2 : N ≤ 60) (hk1 : ¬ (0 ≤ x.toInt ∧ x.toInt ≤ 3) → K (some (.int (-1))) sg) (hk2 : (0 ≤ x.toInt ∧ x.toInt ≤ 3) → ¬ (0 ≤ y.toInt ∧ y.toInt ≤ 1) → K (some (.int (-2))) sg) (hk3 : ∀ (k : Nat) (p : Nat → Bool), k < 4 → x = nI k → (0 ≤ y.toInt ∧ y.toInt ≤ 1) → (∀ j, (p j = true) = (sg 83 j = nI k ∧ (y = 0 ∨ sg 84 j = 0))) → K (some (.int (nI (cntB p N)))) sg) : aCall d 235 [.ref 48, .int x, .int y] n mu ro sg K := by
  refine aCall_start (mL := 5) (cc := cX12_looks) (o := 12) (ret := (some .int)) 2 (by decide) (by decide +kernel) rfl rfl rfl rfl (Nat.le_of_ble_eq_true rfl) (fun G hC hG => ?_)
  simp only [exL, List.cons_append, List.nil_append, rp_0, rp_1, rp_2, rp_3, rp_4, rp_5, rp_6, rp_7, rp_8, rp_9, rp_10, rp_11, List.append_nil]
  refine hG (fun q => q == 27) 60 _ _ _ _ (Nat.le_of_ble_eq_true rfl) ?_
  simp only [D_X12_looks, ↓reduceIte, vcS, vcC, vcI, gtF, ptF, inS, inV, fv0, fv1, fv2, fv3, fw0, fw1, lg_0, lg_1, lg_2, lg_3, lg_4, lg_5, lg_6, lg_7, lg_8, lg_9, lg_10, lg_11, lg_12, lg_13, lg_14, lsq_0, lsl_0, lsq_1, lsl_1, lsq_2, lsl_2, lsq_3, lsl_3, lsq_4, lsl_4, lsq_5, lsl_5, lsq_6, lsl_6, lsq_7, lsl_7, lsq_8, lsl_8, lsq_9, lsl_9, lsq_10, lsl_10, lsq_11, lsl_11, lsq_12, lsl_12, lsq_13, lsl_13, lsq_14, lsl_14, tk_0, tk_1, tk_2, tk_3, tk_4, tk_5, tk_6, tk_7, tk_8, cs_n, cs_i, cs_l, cs_r, cs_u, nl, rt_s, rt_n, CST1, Nat.reduceAdd, Nat.reduceLeDiff, va_rf, rtOk, Bool.false_eq_true, Bool.true_eq_false, if_false, if_true, ite_true, ite_false, true_and, and_true, eq_self, ne_eq, not_false_eq_true, not_true_eq_false, false_implies, true_implies, and_self, reduceCtorEq, Nat.reduceBEq, Bool.or_false, Bool.false_or, Bool.or_true, Bool.true_or, if1_0, if1_1, if1_01, one_01, zer_01, lg_cmp_ge, lg_cmp_le, lg_cmp_gt, lg_cmp_lt, lg_cmp_eq, Classical.not_not, SHm hS, SHr hS]
  refine ⟨by omega, m_noKeeper (by omega) ?_⟩
  by_cases q : 0 ≤ x.toInt ∧ x.toInt ≤ 3
  · have hq := eq_true q
    simp only [D_X12_looks, ↓reduceIte, vcS, vcC, vcI, gtF, ptF, inS, inV, fv0, fv1, fv2, fv3, fw0, fw1, lg_0, lg_1, lg_2, lg_3, lg_4, lg_5, lg_6, lg_7, lg_8, lg_9, lg_10, lg_11, lg_12, lg_13, lg_14, lsq_0, lsl_0, lsq_1, lsl_1, lsq_2, lsl_2, lsq_3, lsl_3, lsq_4, lsl_4, lsq_5, lsl_5, lsq_6, lsl_6, lsq_7, lsl_7, lsq_8, lsl_8, lsq_9, lsl_9, lsq_10, lsl_10, lsq_11, lsl_11, lsq_12, lsl_12, lsq_13, lsl_13, lsq_14, lsl_14, tk_0, tk_1, tk_2, tk_3, tk_4, tk_5, tk_6, tk_7, tk_8, cs_n, cs_i, cs_l, cs_r, cs_u, nl, rt_s, rt_n, CST1, Nat.reduceAdd, Nat.reduceLeDiff, va_rf, rtOk, Bool.false_eq_true, Bool.true_eq_false, if_false, if_true, ite_true, ite_false, true_and, and_true, eq_self, ne_eq, not_false_eq_true, not_true_eq_false, false_implies, true_implies, and_self, reduceCtorEq, Nat.reduceBEq, Bool.or_false, Bool.false_or, Bool.or_true, Bool.true_or, if1_0, if1_1, if1_01, one_01, zer_01, lg_cmp_ge, lg_cmp_le, lg_cmp_gt, lg_cmp_lt, lg_cmp_eq, Classical.not_not, SHm hS, SHr hS, hq]
    refine ⟨by omega, m_in ?_⟩
    simp only [D_X12_looks, ↓reduceIte, vcS, vcC, vcI, gtF, ptF, inS, inV, fv0, fv1, fv2, fv3, fw0, fw1, lg_0, lg_1, lg_2, lg_3, lg_4, lg_5, lg_6, lg_7, lg_8, lg_9, lg_10, lg_11, lg_12, lg_13, lg_14, lsq_0, lsl_0, lsq_1, lsl_1, lsq_2, lsl_2, lsq_3, lsl_3, lsq_4, lsl_4, lsq_5, lsl_5, lsq_6, lsl_6, lsq_7, lsl_7, lsq_8, lsl_8, lsq_9, lsl_9, lsq_10, lsl_10, lsq_11, lsl_11, lsq_12, lsl_12, lsq_13, lsl_13, lsq_14, lsl_14, tk_0, tk_1, tk_2, tk_3, tk_4, tk_5, tk_6, tk_7, tk_8, cs_n, cs_i, cs_l, cs_r, cs_u, nl, rt_s, rt_n, CST1, Nat.reduceAdd, Nat.reduceLeDiff, va_rf, rtOk, Bool.false_eq_true, Bool.true_eq_false, if_false, if_true, ite_true, ite_false, true_and, and_true, eq_self, ne_eq, not_false_eq_true, not_true_eq_false, false_implies, true_implies, and_self, reduceCtorEq, Nat.reduceBEq, Bool.or_false, Bool.false_or, Bool.or_true, Bool.true_or, if1_0, if1_1, if1_01, one_01, zer_01, lg_cmp_ge, lg_cmp_le, lg_cmp_gt, lg_cmp_lt, lg_cmp_eq, Classical.not_not, SHm hS, SHr hS, LIT2, toL]
    refine ⟨fun q2 => ?_, fun q2 => hk2 q q2⟩
    obtain ⟨k, hk4, rfl⟩ := k_of q
    obtain ⟨p, hp⟩ : ∃ p : Nat → Bool, p = fun j => decide (sg 83 j = nI k) && (decide (y = 0) || decide (sg 84 j = 0)) := ⟨_, rfl⟩
    have hp' : ∀ j, (p j = true) = (sg 83 j = nI k ∧ (y = 0 ∨ sg 84 j = 0)) := by
      intro j
      rw [hp]
      simp only [Bool.and_eq_true, Bool.or_eq_true, decide_eq_true_eq]
    have hk5 := hk3 k p hk4 rfl q2 hp'
    have lo : ∀ (m i : Nat), i + m = N → AW G 5 n 0 0 mu ro sg 27 [.ref 48, .int (nI k), .int y, .int (nI (cntB p i)), .int (nI i)] [] := by
      intro m
      induction m with
      | zero =>
        intro i hi
        have hc : (nI N ≤ nI i) = True := eq_true (nI_le (by omega) (by omega))
        have : i = N := by omega
        subst this
        refine hG (fun q => q == 27) 80 _ _ _ _ (Nat.le_of_ble_eq_true rfl) ?_
        simp only [D_X12_looks, ↓reduceIte, vcS, vcC, vcI, gtF, ptF, inS, inV, fv0, fv1, fv2, fv3, fw0, fw1, lg_0, lg_1, lg_2, lg_3, lg_4, lg_5, lg_6, lg_7, lg_8, lg_9, lg_10, lg_11, lg_12, lg_13, lg_14, lsq_0, lsl_0, lsq_1, lsl_1, lsq_2, lsl_2, lsq_3, lsl_3, lsq_4, lsl_4, lsq_5, lsl_5, lsq_6, lsl_6, lsq_7, lsl_7, lsq_8, lsl_8, lsq_9, lsl_9, lsq_10, lsl_10, lsq_11, lsl_11, lsq_12, lsl_12, lsq_13, lsl_13, lsq_14, lsl_14, tk_0, tk_1, tk_2, tk_3, tk_4, tk_5, tk_6, tk_7, tk_8, cs_n, cs_i, cs_l, cs_r, cs_u, nl, rt_s, rt_n, CST1, Nat.reduceAdd, Nat.reduceLeDiff, va_rf, rtOk, Bool.false_eq_true, Bool.true_eq_false, if_false, if_true, ite_true, ite_false, true_and, and_true, eq_self, ne_eq, not_false_eq_true, not_true_eq_false, false_implies, true_implies, and_self, reduceCtorEq, Nat.reduceBEq, Bool.or_false, Bool.false_or, Bool.or_true, Bool.true_or, if1_0, if1_1, if1_01, one_01, zer_01, lg_cmp_ge, lg_cmp_le, lg_cmp_gt, lg_cmp_lt, lg_cmp_eq, Classical.not_not, SHm hS, SHr hS, hN, ↓im_T hc, ↓im_TN hc, hc]
        exact hk5
      | succ m ih =>
        intro i hi
        have hc : (nI N ≤ nI i) = False := eq_false (nI_ge (by omega) (by omega))
        have ei : (nI i).toNatClampNeg = i := nI_clamp (by omega)
        have vi : vp_in (nI i) 60 := vp_in_nI (by omega) (by decide)
        have h0 := ih (i + 1) (by omega)
        rw [cntB] at h0
        have yes : (sg 83 i = nI k ∧ (y = 0 ∨ sg 84 i = 0)) → AW G 5 n 0 0 mu ro sg 27 [.ref 48, .int (nI k), .int y, .int (nI (cntB p i + 1)), .int (nI (i + 1))] [] := by
          intro z
          rw [if_pos (by rw [hp']; exact z)] at h0
          exact h0
        have no : ¬ (sg 83 i = nI k ∧ (y = 0 ∨ sg 84 i = 0)) → AW G 5 n 0 0 mu ro sg 27 [.ref 48, .int (nI k), .int y, .int (nI (cntB p i)), .int (nI (i + 1))] [] := by
          intro z
          rw [if_neg (by rw [hp']; exact z), Nat.add_zero] at h0
          exact h0
        refine hG (fun q => q == 27) 80 _ _ _ _ (Nat.le_of_ble_eq_true rfl) ?_
        simp only [D_X12_looks, ↓reduceIte, vcS, vcC, vcI, gtF, ptF, inS, inV, fv0, fv1, fv2, fv3, fw0, fw1, lg_0, lg_1, lg_2, lg_3, lg_4, lg_5, lg_6, lg_7, lg_8, lg_9, lg_10, lg_11, lg_12, lg_13, lg_14, lsq_0, lsl_0, lsq_1, lsl_1, lsq_2, lsl_2, lsq_3, lsl_3, lsq_4, lsl_4, lsq_5, lsl_5, lsq_6, lsl_6, lsq_7, lsl_7, lsq_8, lsl_8, lsq_9, lsl_9, lsq_10, lsl_10, lsq_11, lsl_11, lsq_12, lsl_12, lsq_13, lsl_13, lsq_14, lsl_14, tk_0, tk_1, tk_2, tk_3, tk_4, tk_5, tk_6, tk_7, tk_8, cs_n, cs_i, cs_l, cs_r, cs_u, nl, rt_s, rt_n, CST1, Nat.reduceAdd, Nat.reduceLeDiff, va_rf, rtOk, Bool.false_eq_true, Bool.true_eq_false, if_false, if_true, ite_true, ite_false, true_and, and_true, eq_self, ne_eq, not_false_eq_true, not_true_eq_false, false_implies, true_implies, and_self, reduceCtorEq, Nat.reduceBEq, Bool.or_false, Bool.false_or, Bool.or_true, Bool.true_or, if1_0, if1_1, if1_01, one_01, zer_01, lg_cmp_ge, lg_cmp_le, lg_cmp_gt, lg_cmp_lt, lg_cmp_eq, Classical.not_not, SHm hS, SHr hS, hN, ↓im_F hc, ↓im_FN hc, hc, ei, vi, nI_1, z0a]
        refine ⟨fun g => no (fun z => g z.1), fun g => ⟨fun g2 => yes ⟨g, Or.inl g2⟩, fun g2 => ⟨fun g3 => no (fun z => z.2.elim g2 g3), fun g3 => yes ⟨g, Or.inr g3⟩⟩⟩⟩
    exact lo N 0 (by omega)
  · have hq := eq_false q
    simp only [D_X12_looks, ↓reduceIte, vcS, vcC, vcI, gtF, ptF, inS, inV, fv0, fv1, fv2, fv3, fw0, fw1, lg_0, lg_1, lg_2, lg_3, lg_4, lg_5, lg_6, lg_7, lg_8, lg_9, lg_10, lg_11, lg_12, lg_13, lg_14, lsq_0, lsl_0, lsq_1, lsl_1, lsq_2, lsl_2, lsq_3, lsl_3, lsq_4, lsl_4, lsq_5, lsl_5, lsq_6, lsl_6, lsq_7, lsl_7, lsq_8, lsl_8, lsq_9, lsl_9, lsq_10, lsl_10, lsq_11, lsl_11, lsq_12, lsl_12, lsq_13, lsl_13, lsq_14, lsl_14, tk_0, tk_1, tk_2, tk_3, tk_4, tk_5, tk_6, tk_7, tk_8, cs_n, cs_i, cs_l, cs_r, cs_u, nl, rt_s, rt_n, CST1, Nat.reduceAdd, Nat.reduceLeDiff, va_rf, rtOk, Bool.false_eq_true, Bool.true_eq_false, if_false, if_true, ite_true, ite_false, true_and, and_true, eq_self, ne_eq, not_false_eq_true, not_true_eq_false, false_implies, true_implies, and_self, reduceCtorEq, Nat.reduceBEq, Bool.or_false, Bool.false_or, Bool.or_true, Bool.true_or, if1_0, if1_1, if1_01, one_01, zer_01, lg_cmp_ge, lg_cmp_le, lg_cmp_gt, lg_cmp_lt, lg_cmp_eq, Classical.not_not, SHm hS, SHr hS, hq, z10]
    exact hk1 q
set_option maxHeartbeats 4000000 in
set_option maxRecDepth 100000 in
theorem b_looks {x y : Int32} (hS : Sh mu ro) (hd : 2 ≤ d) (hI : I_kp sg N) (hk : ∀ r, K r sg) : aCall d 132 [.ref 0, .int x, .int y] n mu ro sg (fun r1 sg1 => aCall d 235 [.ref 48, .int x, .int y] n mu ro sg1 (fun r2 sg2 => r1 = r2 ∧ K r1 sg2)) := by
  obtain ⟨i1, ⟨i2, i3⟩, i4, i5⟩ := id hI
  have mc : ∀ k : Nat, k < 4 → x = nI k → 0 ≤ x.toInt ∧ x.toInt ≤ 3 := fun k hk h => by rw [h, nI_toInt (by omega)]; omega
  refine c_looks hS hd (fun q => ?_) (fun q q2 => ?_) (fun k hk4 hx q2 => ?_)
  · exact m_looks hS hd i3 i4 (fun _ => ⟨rfl, hk _⟩) (fun z => absurd z q) (fun k p hk h => absurd (mc k hk h) q)
  · exact m_looks hS hd i3 i4 (fun z => absurd q z) (fun _ _ => ⟨rfl, hk _⟩) (fun k p hk h z => absurd z q2)
  · refine m_looks hS hd i3 i4 (fun z => absurd (mc k hk4 hx) z) (fun _ z => absurd q2 z) (fun k2 p hk2 hx2 _ hp => ⟨?_, hk _⟩)
    have z1 : k = k2 := nI_inj (by omega) (by omega) hx hx2
    subst z1
    by_cases g : y = 0
    · rw [if_pos g, (i5 k hk4).1, cntB_ext N (fun j _ => ?_)]
      rw [Bool.eq_iff_iff, hp, beq_iff_eq]
      exact ⟨fun z => ⟨z, Or.inl g⟩, fun z => z.1⟩
    · rw [if_neg g, (i5 k hk4).2, cntB_ext N (fun j _ => ?_)]
      rw [Bool.eq_iff_iff, hp, Bool.and_eq_true, beq_iff_eq, beq_iff_eq]
      exact ⟨fun z => ⟨z.1, Or.inr z.2⟩, fun z => ⟨z.1, z.2.resolve_left g⟩⟩
-- look
theorem kp_add {s s' : aS} {k : Nat} {b : Bool} (h : I_kp s N) (hN : N < 60) (hk : k < 4) (e36 : ∀ j, s' 36 j = s 36 j ∧ s' 82 j = s 82 j) (e35 : s' 35 3 = nI (N + 1)) (e47 : s' 48 47 = nI (N + 1)) (e37 : ∀ j, s' 37 j = if j = k then s 37 k + 1 else s 37 j) (e38 : ∀ j, s' 38 j = if j = k ∧ b = false then s 38 k + 1 else s 38 j) (e83 : ∀ j, s' 83 j = if j = N then nI k else s 83 j) (e84 : ∀ j, s' 84 j = if j = N then (if b = true then 1 else 0) else s 84 j) : I_kp s' (N + 1) := by
  obtain ⟨i1, ⟨i2, i3⟩, i4, i5⟩ := h
  refine ⟨fun j hj => by rw [(e36 j).1, (e36 j).2]; exact i1 j hj, ⟨e35, e47⟩, by omega, fun k2 hk2 => ?_⟩
  have kk : (nI k == nI k2) = decide (k = k2) := by
    by_cases q : k = k2
    · rw [q, decide_eq_true rfl]; exact beq_self_eq_true _
    · rw [decide_eq_false q, beq_eq_false_iff_ne]
      exact fun z => q ((nI_eq (by omega) (by omega)).mp z)
  obtain ⟨j1, j2⟩ := i5 k2 hk2
  have a1 : cntB (fun j => s' 83 j == nI k2) N = cntB (fun j => s 83 j == nI k2) N := cntB_ext N (fun j hj => by rw [e83, if_neg (by omega)])
  have a2 : cntB (fun j => s' 83 j == nI k2 && s' 84 j == 0) N = cntB (fun j => s 83 j == nI k2 && s 84 j == 0) N := cntB_ext N (fun j hj => by rw [e83, e84, if_neg (by omega), if_neg (by omega)])
  rw [cntB, cntB, a1, a2, e83, if_pos rfl, e84, if_pos rfl, kk, e37, e38]
  by_cases q : k2 = k
  · subst q
    rw [if_pos rfl, decide_eq_true rfl, if_pos rfl, j1, nI_1]
    refine ⟨rfl, ?_⟩
    cases b with
    | true =>
      rw [if_neg (by simp), if_pos rfl, if_neg (by decide), Nat.add_zero]
      exact j2
    | false =>
      rw [if_pos ⟨rfl, rfl⟩, if_neg (show ¬ (false = true) by decide), if_pos (by decide), j2, nI_1]
  · have d0 : decide (k = k2) = false := decide_eq_false (fun z => q z.symm)
    have n0 : ¬ (k2 = k ∧ b = false) := fun z => q z.1
    simp only [d0, if_neg q, if_neg n0, Bool.false_and, Bool.false_eq_true, if_false, Nat.add_zero]
    exact ⟨j1, j2⟩
def okK (T : Nat) (k x : Int32) : Prop := (0 ≤ k.toInt ∧ k.toInt ≤ 3) ∧ (0 ≤ x.toInt ∧ x.toInt ≤ (T : Int) - 1)
set_option maxHeartbeats 4000000 in
set_option maxRecDepth 100000 in
theorem c_keepLook {k m : Nat} {w : Int32} (hS : Sh mu ro) (hk4 : k < 4) (hm : m < 10) (hN : sg 35 3 = nI N) (hN2 : N ≤ 60) (hk1 : N = 60 → K (some (.int (-4))) sg) (hk2 : N < 60 → w ≤ sg 36 (10 * k + m) → K (some (.int 1)) (s2 (s2 sg 35 3 (nI (N + 1))) 37 k (sg 37 k + 1))) (hk3 : N < 60 → ¬ w ≤ sg 36 (10 * k + m) → K (some (.int 0)) (s2 (s2 (s2 sg 35 3 (nI (N + 1))) 37 k (sg 37 k + 1)) 38 k (sg 38 k + 1))) : aCall d 19 [.ref 35, .int (nI k), .int (nI m), .int w] n mu ro sg K := by
  have tN : (nI N).toInt = N := nI_toInt (by omega)
  have ek : (nI k).toNatClampNeg = k := nI_clamp (by omega)
  have vk : vp_in (nI k) 4 := vp_in_nI hk4 (by decide)
  have ei : (nI (10 * k + m)).toNatClampNeg = 10 * k + m := nI_clamp (by omega)
  have vi : vp_in (nI (10 * k + m)) 40 := vp_in_nI (by omega) (by decide)
  have mr10 : nI k * 10 = nI (10 * k) := by rw [Nat.mul_comm, ← pk_mul]; rfl
  have r1 : s2 sg 35 3 (nI (N + 1)) 37 k = sg 37 k := s2_n (by omega)
  have r2 : s2 (s2 sg 35 3 (nI (N + 1))) 37 k (sg 37 k + 1) 36 (10 * k + m) = sg 36 (10 * k + m) := by rw [s2_n (by omega), s2_n (by omega)]
  have r3 : s2 (s2 sg 35 3 (nI (N + 1))) 37 k (sg 37 k + 1) 38 k = sg 38 k := by rw [s2_n (by omega), s2_n (by omega)]
  refine aCall_start (mL := 4) (cc := cX3_keepLook) (o := 3) (ret := (some .int)) 0 (by decide) (by decide +kernel) rfl rfl rfl rfl (Nat.le_of_ble_eq_true rfl) (fun G hC hG => ?_)
  simp only [exL, List.cons_append, List.nil_append, rp_0, rp_1, rp_2, rp_3, rp_4, rp_5, rp_6, rp_7, rp_8, rp_9, rp_10, rp_11, List.append_nil]
  refine hG (fun _ => false) 80 _ _ _ _ (Nat.le_of_ble_eq_true rfl) ?_
  by_cases h60 : N = 60
  · have hc : (nI N < 60) = False := eq_false (by ((try simp only [i_le, i_lt, i_eq, l_le, l_lt, l_eq, i_ne, l_ne, toL, l_add, l_sub1, LIT1, LIT2, Int.reduceNeg, ge_iff_le, gt_iff_lt] at *); omega))
    simp only [D_X3_keepLook, ↓reduceIte, vcS, vcC, vcI, gtF, ptF, inS, inV, fv0, fv1, fv2, fv3, fw0, fw1, lg_0, lg_1, lg_2, lg_3, lg_4, lg_5, lg_6, lg_7, lg_8, lg_9, lg_10, lg_11, lg_12, lg_13, lg_14, lsq_0, lsl_0, lsq_1, lsl_1, lsq_2, lsl_2, lsq_3, lsl_3, lsq_4, lsl_4, lsq_5, lsl_5, lsq_6, lsl_6, lsq_7, lsl_7, lsq_8, lsl_8, lsq_9, lsl_9, lsq_10, lsl_10, lsq_11, lsl_11, lsq_12, lsl_12, lsq_13, lsl_13, lsq_14, lsl_14, tk_0, tk_1, tk_2, tk_3, tk_4, tk_5, tk_6, tk_7, tk_8, cs_n, cs_i, cs_l, cs_r, cs_u, nl, rt_s, rt_n, CST1, Nat.reduceAdd, Nat.reduceLeDiff, va_rf, rtOk, Bool.false_eq_true, Bool.true_eq_false, if_false, if_true, ite_true, ite_false, true_and, and_true, eq_self, ne_eq, not_false_eq_true, not_true_eq_false, false_implies, true_implies, and_self, reduceCtorEq, Nat.reduceBEq, Bool.or_false, Bool.false_or, Bool.or_true, Bool.true_or, if1_0, if1_1, if1_01, one_01, zer_01, lg_cmp_ge, lg_cmp_le, lg_cmp_gt, lg_cmp_lt, lg_cmp_eq, Classical.not_not, SHm hS, SHr hS, hN, ↓im_F hc, ↓im_FN hc, hc]
    exact hk1 h60
  · have hc : (nI N < 60) = True := eq_true (by ((try simp only [i_le, i_lt, i_eq, l_le, l_lt, l_eq, i_ne, l_ne, toL, l_add, l_sub1, LIT1, LIT2, Int.reduceNeg, ge_iff_le, gt_iff_lt] at *); omega))
    have cc : (sg 36 (10 * k + m) < w) = ¬ (w ≤ sg 36 (10 * k + m)) := propext ⟨fun z => by ((try simp only [i_le, i_lt, i_eq, l_le, l_lt, l_eq, i_ne, l_ne, toL, l_add, l_sub1, LIT1, LIT2, Int.reduceNeg, ge_iff_le, gt_iff_lt] at *); omega), fun z => by ((try simp only [i_le, i_lt, i_eq, l_le, l_lt, l_eq, i_ne, l_ne, toL, l_add, l_sub1, LIT1, LIT2, Int.reduceNeg, ge_iff_le, gt_iff_lt] at *); omega)⟩
    simp only [D_X3_keepLook, ↓reduceIte, vcS, vcC, vcI, gtF, ptF, inS, inV, fv0, fv1, fv2, fv3, fw0, fw1, lg_0, lg_1, lg_2, lg_3, lg_4, lg_5, lg_6, lg_7, lg_8, lg_9, lg_10, lg_11, lg_12, lg_13, lg_14, lsq_0, lsl_0, lsq_1, lsl_1, lsq_2, lsl_2, lsq_3, lsl_3, lsq_4, lsl_4, lsq_5, lsl_5, lsq_6, lsl_6, lsq_7, lsl_7, lsq_8, lsl_8, lsq_9, lsl_9, lsq_10, lsl_10, lsq_11, lsl_11, lsq_12, lsl_12, lsq_13, lsl_13, lsq_14, lsl_14, tk_0, tk_1, tk_2, tk_3, tk_4, tk_5, tk_6, tk_7, tk_8, cs_n, cs_i, cs_l, cs_r, cs_u, nl, rt_s, rt_n, CST1, Nat.reduceAdd, Nat.reduceLeDiff, va_rf, rtOk, Bool.false_eq_true, Bool.true_eq_false, if_false, if_true, ite_true, ite_false, true_and, and_true, eq_self, ne_eq, not_false_eq_true, not_true_eq_false, false_implies, true_implies, and_self, reduceCtorEq, Nat.reduceBEq, Bool.or_false, Bool.false_or, Bool.or_true, Bool.true_or, if1_0, if1_1, if1_01, one_01, zer_01, lg_cmp_ge, lg_cmp_le, lg_cmp_gt, lg_cmp_lt, lg_cmp_eq, Classical.not_not, SHm hS, SHr hS, hN, ↓im_T hc, ↓im_TN hc, hc, nI_1, ek, vk, mr10, nI_add, ei, vi, r1, r2, r3, cc]
    exact ⟨fun g => hk3 (by omega) g, fun g => hk2 (by omega) g⟩
set_option maxHeartbeats 4000000 in
set_option maxRecDepth 100000 in
theorem c_look {k x w : Int32} (hS : Sh mu ro) (hd : 3 ≤ d) (hT : S_tk mu ro n T tb) (hI : I_tk sg T tb) (hN : sg 35 3 = nI N) (hN2 : N ≤ 60) (hk1 : ¬ okK T k x → K (some (.int (-1))) sg) (hk2 : okK T k x → ¬ (0 ≤ w.toInt ∧ w.toInt ≤ 999) → K (some (.int (-2))) sg) (hk3 : ∀ t : Nat, okK T k x → (0 ≤ w.toInt ∧ w.toInt ≤ 999) → t < T → x = nI t → ¬ sg 55 t = 0 → K (some (.int (-3))) sg) (hk4 : ∀ t : Nat, okK T k x → (0 ≤ w.toInt ∧ w.toInt ≤ 999) → t < T → x = nI t → sg 55 t = 0 → N = 60 → K (some (.int (-4))) sg)
    (hk5 : ∀ k' t m : Nat, okK T k x → (0 ≤ w.toInt ∧ w.toInt ≤ 999) → k' < 4 → k = nI k' → t < T → x = nI t → sg 55 t = 0 → m < 10 → sg 56 t = nI m → N < 60 → (w ≤ sg 36 (10 * k' + m) → K (some (.int 1)) (s2 (s2 sg 35 3 (nI (N + 1))) 37 k' (sg 37 k' + 1))) ∧ (¬ w ≤ sg 36 (10 * k' + m) → K (some (.int 0)) (s2 (s2 (s2 sg 35 3 (nI (N + 1))) 37 k' (sg 37 k' + 1)) 38 k' (sg 38 k' + 1)))) : aCall d 131 [.ref 0, .int k, .int x, .int w] n mu ro sg K := by
  obtain ⟨⟨i1, i2⟩, i3, i4, i5⟩ := id hI
  refine aCall_start (mL := 5) (cc := cX11_look) (o := 11) (ret := (some .int)) 1 (by decide) (by decide +kernel) rfl rfl rfl rfl (Nat.le_of_ble_eq_true rfl) (fun G hC hG => ?_)
  simp only [exL, List.cons_append, List.nil_append, rp_0, rp_1, rp_2, rp_3, rp_4, rp_5, rp_6, rp_7, rp_8, rp_9, rp_10, rp_11, List.append_nil]
  refine hG (fun _ => false) 60 _ _ _ _ (Nat.le_of_ble_eq_true rfl) ?_
  simp only [D_X11_look, N_X11_look, ↓reduceIte, vcS, vcC, vcI, gtF, ptF, inS, inV, fv0, fv1, fv2, fv3, fw0, fw1, lg_0, lg_1, lg_2, lg_3, lg_4, lg_5, lg_6, lg_7, lg_8, lg_9, lg_10, lg_11, lg_12, lg_13, lg_14, lsq_0, lsl_0, lsq_1, lsl_1, lsq_2, lsl_2, lsq_3, lsl_3, lsq_4, lsl_4, lsq_5, lsl_5, lsq_6, lsl_6, lsq_7, lsl_7, lsq_8, lsl_8, lsq_9, lsl_9, lsq_10, lsl_10, lsq_11, lsl_11, lsq_12, lsl_12, lsq_13, lsl_13, lsq_14, lsl_14, tk_0, tk_1, tk_2, tk_3, tk_4, tk_5, tk_6, tk_7, tk_8, cs_n, cs_i, cs_l, cs_r, cs_u, nl, rt_s, rt_n, CST1, Nat.reduceAdd, Nat.reduceLeDiff, va_rf, rtOk, Bool.false_eq_true, Bool.true_eq_false, if_false, if_true, ite_true, ite_false, true_and, and_true, eq_self, ne_eq, not_false_eq_true, not_true_eq_false, false_implies, true_implies, and_self, reduceCtorEq, Nat.reduceBEq, Bool.or_false, Bool.false_or, Bool.or_true, Bool.true_or, if1_0, if1_1, if1_01, one_01, zer_01, lg_cmp_ge, lg_cmp_le, lg_cmp_gt, lg_cmp_lt, lg_cmp_eq, Classical.not_not, SHm hS, SHr hS]
  by_cases hx : 0 ≤ x.toInt ∧ x.toInt ≤ (T : Int) - 1
  · obtain ⟨t, ht, rfl, et, vt⟩ := tk_x i3 hx
    obtain ⟨kd, e, k1, k2, k3, _, _, _⟩ := t1_k (i4 t ht)
    have hs2 := (hT t ht).2.1
    obtain ⟨f1, f2⟩ := (i4 t ht).2.2.1
    obtain ⟨m, hm, hm2⟩ := i_of (x := sg 56 t) (N := 9) f2.1 f2.2 (by decide)
    have f1' : sg (tb t) 2 = nI m := f1.trans hm2
    refine ⟨by omega, c_talkN hS (by omega) hT i1 i3 ht ?_⟩
    simp only [D_X11_look, N_X11_look, ↓reduceIte, vcS, vcC, vcI, gtF, ptF, inS, inV, fv0, fv1, fv2, fv3, fw0, fw1, lg_0, lg_1, lg_2, lg_3, lg_4, lg_5, lg_6, lg_7, lg_8, lg_9, lg_10, lg_11, lg_12, lg_13, lg_14, lsq_0, lsl_0, lsq_1, lsl_1, lsq_2, lsl_2, lsq_3, lsl_3, lsq_4, lsl_4, lsq_5, lsl_5, lsq_6, lsl_6, lsq_7, lsl_7, lsq_8, lsl_8, lsq_9, lsl_9, lsq_10, lsl_10, lsq_11, lsl_11, lsq_12, lsl_12, lsq_13, lsl_13, lsq_14, lsl_14, tk_0, tk_1, tk_2, tk_3, tk_4, tk_5, tk_6, tk_7, tk_8, cs_n, cs_i, cs_l, cs_r, cs_u, nl, rt_s, rt_n, CST1, Nat.reduceAdd, Nat.reduceLeDiff, va_rf, rtOk, Bool.false_eq_true, Bool.true_eq_false, if_false, if_true, ite_true, ite_false, true_and, and_true, eq_self, ne_eq, not_false_eq_true, not_true_eq_false, false_implies, true_implies, and_self, reduceCtorEq, Nat.reduceBEq, Bool.or_false, Bool.false_or, Bool.or_true, Bool.true_or, if1_0, if1_1, if1_01, one_01, zer_01, lg_cmp_ge, lg_cmp_le, lg_cmp_gt, lg_cmp_lt, lg_cmp_eq, Classical.not_not, SHm hS, SHr hS]
    refine ⟨by omega, c_isIn ?_⟩
    simp only [D_X11_look, N_X11_look, ↓reduceIte, vcS, vcC, vcI, gtF, ptF, inS, inV, fv0, fv1, fv2, fv3, fw0, fw1, lg_0, lg_1, lg_2, lg_3, lg_4, lg_5, lg_6, lg_7, lg_8, lg_9, lg_10, lg_11, lg_12, lg_13, lg_14, lsq_0, lsl_0, lsq_1, lsl_1, lsq_2, lsl_2, lsq_3, lsl_3, lsq_4, lsl_4, lsq_5, lsl_5, lsq_6, lsl_6, lsq_7, lsl_7, lsq_8, lsl_8, lsq_9, lsl_9, lsq_10, lsl_10, lsq_11, lsl_11, lsq_12, lsl_12, lsq_13, lsl_13, lsq_14, lsl_14, tk_0, tk_1, tk_2, tk_3, tk_4, tk_5, tk_6, tk_7, tk_8, cs_n, cs_i, cs_l, cs_r, cs_u, nl, rt_s, rt_n, CST1, Nat.reduceAdd, Nat.reduceLeDiff, va_rf, rtOk, Bool.false_eq_true, Bool.true_eq_false, if_false, if_true, ite_true, ite_false, true_and, and_true, eq_self, ne_eq, not_false_eq_true, not_true_eq_false, false_implies, true_implies, and_self, reduceCtorEq, Nat.reduceBEq, Bool.or_false, Bool.false_or, Bool.or_true, Bool.true_or, if1_0, if1_1, if1_01, one_01, zer_01, lg_cmp_ge, lg_cmp_le, lg_cmp_gt, lg_cmp_lt, lg_cmp_eq, Classical.not_not, SHm hS, SHr hS, LIT1]
    refine ⟨fun q1 => hk1 (fun z => q1 z.1), fun q1 => ⟨by omega, c_isTick (by omega) ?_⟩⟩
    simp only [D_X11_look, N_X11_look, ↓reduceIte, vcS, vcC, vcI, gtF, ptF, inS, inV, fv0, fv1, fv2, fv3, fw0, fw1, lg_0, lg_1, lg_2, lg_3, lg_4, lg_5, lg_6, lg_7, lg_8, lg_9, lg_10, lg_11, lg_12, lg_13, lg_14, lsq_0, lsl_0, lsq_1, lsl_1, lsq_2, lsl_2, lsq_3, lsl_3, lsq_4, lsl_4, lsq_5, lsl_5, lsq_6, lsl_6, lsq_7, lsl_7, lsq_8, lsl_8, lsq_9, lsl_9, lsq_10, lsl_10, lsq_11, lsl_11, lsq_12, lsl_12, lsq_13, lsl_13, lsq_14, lsl_14, tk_0, tk_1, tk_2, tk_3, tk_4, tk_5, tk_6, tk_7, tk_8, cs_n, cs_i, cs_l, cs_r, cs_u, nl, rt_s, rt_n, CST1, Nat.reduceAdd, Nat.reduceLeDiff, va_rf, rtOk, Bool.false_eq_true, Bool.true_eq_false, if_false, if_true, ite_true, ite_false, true_and, and_true, eq_self, ne_eq, not_false_eq_true, not_true_eq_false, false_implies, true_implies, and_self, reduceCtorEq, Nat.reduceBEq, Bool.or_false, Bool.false_or, Bool.or_true, Bool.true_or, if1_0, if1_1, if1_01, one_01, zer_01, lg_cmp_ge, lg_cmp_le, lg_cmp_gt, lg_cmp_lt, lg_cmp_eq, Classical.not_not, SHm hS, SHr hS, LIT1, hs2]
    refine ⟨fun q2 => ⟨by omega, c_isSealed hs2 k2 k1 ?_⟩, fun q2 => hk2 ⟨q1, hx⟩ q2⟩
    obtain ⟨k', hk', rfl⟩ := k_of q1
    by_cases kz : kd = 0
    · rw [if_pos kz]
      have z5 : sg 55 t = 0 := by rw [k3, kz]; rfl
      simp only [D_X11_look, N_X11_look, ↓reduceIte, vcS, vcC, vcI, gtF, ptF, inS, inV, fv0, fv1, fv2, fv3, fw0, fw1, lg_0, lg_1, lg_2, lg_3, lg_4, lg_5, lg_6, lg_7, lg_8, lg_9, lg_10, lg_11, lg_12, lg_13, lg_14, lsq_0, lsl_0, lsq_1, lsl_1, lsq_2, lsl_2, lsq_3, lsl_3, lsq_4, lsl_4, lsq_5, lsl_5, lsq_6, lsl_6, lsq_7, lsl_7, lsq_8, lsl_8, lsq_9, lsl_9, lsq_10, lsl_10, lsq_11, lsl_11, lsq_12, lsl_12, lsq_13, lsl_13, lsq_14, lsl_14, tk_0, tk_1, tk_2, tk_3, tk_4, tk_5, tk_6, tk_7, tk_8, cs_n, cs_i, cs_l, cs_r, cs_u, nl, rt_s, rt_n, CST1, Nat.reduceAdd, Nat.reduceLeDiff, va_rf, rtOk, Bool.false_eq_true, Bool.true_eq_false, if_false, if_true, ite_true, ite_false, true_and, and_true, eq_self, ne_eq, not_false_eq_true, not_true_eq_false, false_implies, true_implies, and_self, reduceCtorEq, Nat.reduceBEq, Bool.or_false, Bool.false_or, Bool.or_true, Bool.true_or, if1_0, if1_1, if1_01, one_01, zer_01, lg_cmp_ge, lg_cmp_le, lg_cmp_gt, lg_cmp_lt, lg_cmp_eq, Classical.not_not, SHm hS, SHr hS, hs2, f1']
      refine ⟨by omega, c_keepLook hS hk' (by omega) hN hN2 (fun g => ?_) (fun g g2 => ?_) (fun g g2 => ?_)⟩
      · simp only [D_X11_look, N_X11_look, ↓reduceIte, vcS, vcC, vcI, gtF, ptF, inS, inV, fv0, fv1, fv2, fv3, fw0, fw1, lg_0, lg_1, lg_2, lg_3, lg_4, lg_5, lg_6, lg_7, lg_8, lg_9, lg_10, lg_11, lg_12, lg_13, lg_14, lsq_0, lsl_0, lsq_1, lsl_1, lsq_2, lsl_2, lsq_3, lsl_3, lsq_4, lsl_4, lsq_5, lsl_5, lsq_6, lsl_6, lsq_7, lsl_7, lsq_8, lsl_8, lsq_9, lsl_9, lsq_10, lsl_10, lsq_11, lsl_11, lsq_12, lsl_12, lsq_13, lsl_13, lsq_14, lsl_14, tk_0, tk_1, tk_2, tk_3, tk_4, tk_5, tk_6, tk_7, tk_8, cs_n, cs_i, cs_l, cs_r, cs_u, nl, rt_s, rt_n, CST1, Nat.reduceAdd, Nat.reduceLeDiff, va_rf, rtOk, Bool.false_eq_true, Bool.true_eq_false, if_false, if_true, ite_true, ite_false, true_and, and_true, eq_self, ne_eq, not_false_eq_true, not_true_eq_false, false_implies, true_implies, and_self, reduceCtorEq, Nat.reduceBEq, Bool.or_false, Bool.false_or, Bool.or_true, Bool.true_or, if1_0, if1_1, if1_01, one_01, zer_01, lg_cmp_ge, lg_cmp_le, lg_cmp_gt, lg_cmp_lt, lg_cmp_eq, Classical.not_not, SHm hS, SHr hS]
        exact hk4 t ⟨q1, hx⟩ q2 ht rfl z5 g
      · simp only [D_X11_look, N_X11_look, ↓reduceIte, vcS, vcC, vcI, gtF, ptF, inS, inV, fv0, fv1, fv2, fv3, fw0, fw1, lg_0, lg_1, lg_2, lg_3, lg_4, lg_5, lg_6, lg_7, lg_8, lg_9, lg_10, lg_11, lg_12, lg_13, lg_14, lsq_0, lsl_0, lsq_1, lsl_1, lsq_2, lsl_2, lsq_3, lsl_3, lsq_4, lsl_4, lsq_5, lsl_5, lsq_6, lsl_6, lsq_7, lsl_7, lsq_8, lsl_8, lsq_9, lsl_9, lsq_10, lsl_10, lsq_11, lsl_11, lsq_12, lsl_12, lsq_13, lsl_13, lsq_14, lsl_14, tk_0, tk_1, tk_2, tk_3, tk_4, tk_5, tk_6, tk_7, tk_8, cs_n, cs_i, cs_l, cs_r, cs_u, nl, rt_s, rt_n, CST1, Nat.reduceAdd, Nat.reduceLeDiff, va_rf, rtOk, Bool.false_eq_true, Bool.true_eq_false, if_false, if_true, ite_true, ite_false, true_and, and_true, eq_self, ne_eq, not_false_eq_true, not_true_eq_false, false_implies, true_implies, and_self, reduceCtorEq, Nat.reduceBEq, Bool.or_false, Bool.false_or, Bool.or_true, Bool.true_or, if1_0, if1_1, if1_01, one_01, zer_01, lg_cmp_ge, lg_cmp_le, lg_cmp_gt, lg_cmp_lt, lg_cmp_eq, Classical.not_not, SHm hS, SHr hS]
        exact (hk5 k' t m ⟨q1, hx⟩ q2 hk' rfl ht rfl z5 (by omega) hm2 g).1 g2
      · simp only [D_X11_look, N_X11_look, ↓reduceIte, vcS, vcC, vcI, gtF, ptF, inS, inV, fv0, fv1, fv2, fv3, fw0, fw1, lg_0, lg_1, lg_2, lg_3, lg_4, lg_5, lg_6, lg_7, lg_8, lg_9, lg_10, lg_11, lg_12, lg_13, lg_14, lsq_0, lsl_0, lsq_1, lsl_1, lsq_2, lsl_2, lsq_3, lsl_3, lsq_4, lsl_4, lsq_5, lsl_5, lsq_6, lsl_6, lsq_7, lsl_7, lsq_8, lsl_8, lsq_9, lsl_9, lsq_10, lsl_10, lsq_11, lsl_11, lsq_12, lsl_12, lsq_13, lsl_13, lsq_14, lsl_14, tk_0, tk_1, tk_2, tk_3, tk_4, tk_5, tk_6, tk_7, tk_8, cs_n, cs_i, cs_l, cs_r, cs_u, nl, rt_s, rt_n, CST1, Nat.reduceAdd, Nat.reduceLeDiff, va_rf, rtOk, Bool.false_eq_true, Bool.true_eq_false, if_false, if_true, ite_true, ite_false, true_and, and_true, eq_self, ne_eq, not_false_eq_true, not_true_eq_false, false_implies, true_implies, and_self, reduceCtorEq, Nat.reduceBEq, Bool.or_false, Bool.false_or, Bool.or_true, Bool.true_or, if1_0, if1_1, if1_01, one_01, zer_01, lg_cmp_ge, lg_cmp_le, lg_cmp_gt, lg_cmp_lt, lg_cmp_eq, Classical.not_not, SHm hS, SHr hS]
        exact (hk5 k' t m ⟨q1, hx⟩ q2 hk' rfl ht rfl z5 (by omega) hm2 g).2 g2
    · rw [if_neg kz]
      simp only [D_X11_look, N_X11_look, ↓reduceIte, vcS, vcC, vcI, gtF, ptF, inS, inV, fv0, fv1, fv2, fv3, fw0, fw1, lg_0, lg_1, lg_2, lg_3, lg_4, lg_5, lg_6, lg_7, lg_8, lg_9, lg_10, lg_11, lg_12, lg_13, lg_14, lsq_0, lsl_0, lsq_1, lsl_1, lsq_2, lsl_2, lsq_3, lsl_3, lsq_4, lsl_4, lsq_5, lsl_5, lsq_6, lsl_6, lsq_7, lsl_7, lsq_8, lsl_8, lsq_9, lsl_9, lsq_10, lsl_10, lsq_11, lsl_11, lsq_12, lsl_12, lsq_13, lsl_13, lsq_14, lsl_14, tk_0, tk_1, tk_2, tk_3, tk_4, tk_5, tk_6, tk_7, tk_8, cs_n, cs_i, cs_l, cs_r, cs_u, nl, rt_s, rt_n, CST1, Nat.reduceAdd, Nat.reduceLeDiff, va_rf, rtOk, Bool.false_eq_true, Bool.true_eq_false, if_false, if_true, ite_true, ite_false, true_and, and_true, eq_self, ne_eq, not_false_eq_true, not_true_eq_false, false_implies, true_implies, and_self, reduceCtorEq, Nat.reduceBEq, Bool.or_false, Bool.false_or, Bool.or_true, Bool.true_or, if1_0, if1_1, if1_01, one_01, zer_01, lg_cmp_ge, lg_cmp_le, lg_cmp_gt, lg_cmp_lt, lg_cmp_eq, Classical.not_not, SHm hS, SHr hS, z10]
      exact hk3 t ⟨q1, hx⟩ q2 ht rfl (by rw [k3]; exact nI_ne0 (by omega) (by omega))
  · refine ⟨by omega, c_talkX hS (by omega) i1 i3 hx ?_⟩
    simp only [D_X11_look, N_X11_look, ↓reduceIte, vcS, vcC, vcI, gtF, ptF, inS, inV, fv0, fv1, fv2, fv3, fw0, fw1, lg_0, lg_1, lg_2, lg_3, lg_4, lg_5, lg_6, lg_7, lg_8, lg_9, lg_10, lg_11, lg_12, lg_13, lg_14, lsq_0, lsl_0, lsq_1, lsl_1, lsq_2, lsl_2, lsq_3, lsl_3, lsq_4, lsl_4, lsq_5, lsl_5, lsq_6, lsl_6, lsq_7, lsl_7, lsq_8, lsl_8, lsq_9, lsl_9, lsq_10, lsl_10, lsq_11, lsl_11, lsq_12, lsl_12, lsq_13, lsl_13, lsq_14, lsl_14, tk_0, tk_1, tk_2, tk_3, tk_4, tk_5, tk_6, tk_7, tk_8, cs_n, cs_i, cs_l, cs_r, cs_u, nl, rt_s, rt_n, CST1, Nat.reduceAdd, Nat.reduceLeDiff, va_rf, rtOk, Bool.false_eq_true, Bool.true_eq_false, if_false, if_true, ite_true, ite_false, true_and, and_true, eq_self, ne_eq, not_false_eq_true, not_true_eq_false, false_implies, true_implies, and_self, reduceCtorEq, Nat.reduceBEq, Bool.or_false, Bool.false_or, Bool.or_true, Bool.true_or, if1_0, if1_1, if1_01, one_01, zer_01, lg_cmp_ge, lg_cmp_le, lg_cmp_gt, lg_cmp_lt, lg_cmp_eq, Classical.not_not, SHm hS, SHr hS]
    refine ⟨by omega, c_isIn ?_⟩
    simp only [D_X11_look, N_X11_look, ↓reduceIte, vcS, vcC, vcI, gtF, ptF, inS, inV, fv0, fv1, fv2, fv3, fw0, fw1, lg_0, lg_1, lg_2, lg_3, lg_4, lg_5, lg_6, lg_7, lg_8, lg_9, lg_10, lg_11, lg_12, lg_13, lg_14, lsq_0, lsl_0, lsq_1, lsl_1, lsq_2, lsl_2, lsq_3, lsl_3, lsq_4, lsl_4, lsq_5, lsl_5, lsq_6, lsl_6, lsq_7, lsl_7, lsq_8, lsl_8, lsq_9, lsl_9, lsq_10, lsl_10, lsq_11, lsl_11, lsq_12, lsl_12, lsq_13, lsl_13, lsq_14, lsl_14, tk_0, tk_1, tk_2, tk_3, tk_4, tk_5, tk_6, tk_7, tk_8, cs_n, cs_i, cs_l, cs_r, cs_u, nl, rt_s, rt_n, CST1, Nat.reduceAdd, Nat.reduceLeDiff, va_rf, rtOk, Bool.false_eq_true, Bool.true_eq_false, if_false, if_true, ite_true, ite_false, true_and, and_true, eq_self, ne_eq, not_false_eq_true, not_true_eq_false, false_implies, true_implies, and_self, reduceCtorEq, Nat.reduceBEq, Bool.or_false, Bool.false_or, Bool.or_true, Bool.true_or, if1_0, if1_1, if1_01, one_01, zer_01, lg_cmp_ge, lg_cmp_le, lg_cmp_gt, lg_cmp_lt, lg_cmp_eq, Classical.not_not, SHm hS, SHr hS, LIT1]
    exact ⟨fun _ => hk1 (fun z => hx z.2), fun _ => hk1 (fun z => hx z.2)⟩
set_option maxHeartbeats 4000000 in
set_option maxRecDepth 100000 in
theorem m_look {k x w : Int32} (hS : Sh mu ro) (hd : 3 ≤ d) (hI : I_tk sg T tb) (hN : sg 48 47 = nI N) (hN2 : N ≤ 60) (hk1 : ¬ okK T k x → K (some (.int (-1))) sg) (hk2 : okK T k x → ¬ (0 ≤ w.toInt ∧ w.toInt ≤ 999) → K (some (.int (-2))) sg) (hk3 : ∀ t : Nat, okK T k x → (0 ≤ w.toInt ∧ w.toInt ≤ 999) → t < T → x = nI t → ¬ sg 55 t = 0 → K (some (.int (-3))) sg) (hk4 : ∀ t : Nat, okK T k x → (0 ≤ w.toInt ∧ w.toInt ≤ 999) → t < T → x = nI t → sg 55 t = 0 → N = 60 → K (some (.int (-4))) sg)
    (hk5 : ∀ k' t m : Nat, okK T k x → (0 ≤ w.toInt ∧ w.toInt ≤ 999) → k' < 4 → k = nI k' → t < T → x = nI t → sg 55 t = 0 → m < 10 → sg 56 t = nI m → N < 60 → (w ≤ sg 82 (10 * k' + m) → K (some (.int 1)) (s2 (s2 (s2 sg 83 N (nI k')) 84 N 1) 48 47 (nI (N + 1)))) ∧ (¬ w ≤ sg 82 (10 * k' + m) → K (some (.int 0)) (s2 (s2 (s2 sg 83 N (nI k')) 84 N 0) 48 47 (nI (N + 1))))) : aCall d 234 [.ref 48, .int k, .int x, .int w] n mu ro sg K := by
  obtain ⟨⟨i1, i2⟩, i3, i4, i5⟩ := id hI
  have tN : (nI N).toInt = N := nI_toInt (by omega)
  refine aCall_start (mL := 4) (cc := cX12_look) (o := 12) (ret := (some .int)) 0 (by decide) (by decide +kernel) rfl rfl rfl rfl (Nat.le_of_ble_eq_true rfl) (fun G hC hG => ?_)
  simp only [exL, List.cons_append, List.nil_append, rp_0, rp_1, rp_2, rp_3, rp_4, rp_5, rp_6, rp_7, rp_8, rp_9, rp_10, rp_11, List.append_nil]
  refine hG (fun _ => false) 120 _ _ _ _ (Nat.le_of_ble_eq_true rfl) ?_
  simp only [D_X12_look, N_X12_look, ↓reduceIte, vcS, vcC, vcI, gtF, ptF, inS, inV, fv0, fv1, fv2, fv3, fw0, fw1, lg_0, lg_1, lg_2, lg_3, lg_4, lg_5, lg_6, lg_7, lg_8, lg_9, lg_10, lg_11, lg_12, lg_13, lg_14, lsq_0, lsl_0, lsq_1, lsl_1, lsq_2, lsl_2, lsq_3, lsl_3, lsq_4, lsl_4, lsq_5, lsl_5, lsq_6, lsl_6, lsq_7, lsl_7, lsq_8, lsl_8, lsq_9, lsl_9, lsq_10, lsl_10, lsq_11, lsl_11, lsq_12, lsl_12, lsq_13, lsl_13, lsq_14, lsl_14, tk_0, tk_1, tk_2, tk_3, tk_4, tk_5, tk_6, tk_7, tk_8, cs_n, cs_i, cs_l, cs_r, cs_u, nl, rt_s, rt_n, CST1, Nat.reduceAdd, Nat.reduceLeDiff, va_rf, rtOk, Bool.false_eq_true, Bool.true_eq_false, if_false, if_true, ite_true, ite_false, true_and, and_true, eq_self, ne_eq, not_false_eq_true, not_true_eq_false, false_implies, true_implies, and_self, reduceCtorEq, Nat.reduceBEq, Bool.or_false, Bool.false_or, Bool.or_true, Bool.true_or, if1_0, if1_1, if1_01, one_01, zer_01, lg_cmp_ge, lg_cmp_le, lg_cmp_gt, lg_cmp_lt, lg_cmp_eq, Classical.not_not, SHm hS, SHr hS]
  refine ⟨by omega, m_noKeeper (by omega) ?_⟩
  by_cases q1 : 0 ≤ k.toInt ∧ k.toInt ≤ 3
  · have hq1 := eq_true q1
    simp only [D_X12_look, N_X12_look, ↓reduceIte, vcS, vcC, vcI, gtF, ptF, inS, inV, fv0, fv1, fv2, fv3, fw0, fw1, lg_0, lg_1, lg_2, lg_3, lg_4, lg_5, lg_6, lg_7, lg_8, lg_9, lg_10, lg_11, lg_12, lg_13, lg_14, lsq_0, lsl_0, lsq_1, lsl_1, lsq_2, lsl_2, lsq_3, lsl_3, lsq_4, lsl_4, lsq_5, lsl_5, lsq_6, lsl_6, lsq_7, lsl_7, lsq_8, lsl_8, lsq_9, lsl_9, lsq_10, lsl_10, lsq_11, lsl_11, lsq_12, lsl_12, lsq_13, lsl_13, lsq_14, lsl_14, tk_0, tk_1, tk_2, tk_3, tk_4, tk_5, tk_6, tk_7, tk_8, cs_n, cs_i, cs_l, cs_r, cs_u, nl, rt_s, rt_n, CST1, Nat.reduceAdd, Nat.reduceLeDiff, va_rf, rtOk, Bool.false_eq_true, Bool.true_eq_false, if_false, if_true, ite_true, ite_false, true_and, and_true, eq_self, ne_eq, not_false_eq_true, not_true_eq_false, false_implies, true_implies, and_self, reduceCtorEq, Nat.reduceBEq, Bool.or_false, Bool.false_or, Bool.or_true, Bool.true_or, if1_0, if1_1, if1_01, one_01, zer_01, lg_cmp_ge, lg_cmp_le, lg_cmp_gt, lg_cmp_lt, lg_cmp_eq, Classical.not_not, SHm hS, SHr hS, hq1]
    refine ⟨by omega, m_noTalk hS (by omega) i2 i3 ?_⟩
    by_cases hx : 0 ≤ x.toInt ∧ x.toInt ≤ (T : Int) - 1
    · have hqx := eq_true hx
      obtain ⟨t, ht, rfl, et, vt⟩ := tk_x i3 hx
      obtain ⟨kd, e, k1, k2, k3, _, _, _⟩ := t1_k (i4 t ht)
      obtain ⟨f1, f2⟩ := (i4 t ht).2.2.1
      obtain ⟨m, hm, hm2⟩ := i_of (x := sg 56 t) (N := 9) f2.1 f2.2 (by decide)
      obtain ⟨k', hk', rfl⟩ := k_of q1
      have ei : (nI (10 * k' + m)).toNatClampNeg = 10 * k' + m := nI_clamp (by omega)
      have vi : vp_in (nI (10 * k' + m)) 40 := vp_in_nI (by omega) (by decide)
      simp only [D_X12_look, N_X12_look, ↓reduceIte, vcS, vcC, vcI, gtF, ptF, inS, inV, fv0, fv1, fv2, fv3, fw0, fw1, lg_0, lg_1, lg_2, lg_3, lg_4, lg_5, lg_6, lg_7, lg_8, lg_9, lg_10, lg_11, lg_12, lg_13, lg_14, lsq_0, lsl_0, lsq_1, lsl_1, lsq_2, lsl_2, lsq_3, lsl_3, lsq_4, lsl_4, lsq_5, lsl_5, lsq_6, lsl_6, lsq_7, lsl_7, lsq_8, lsl_8, lsq_9, lsl_9, lsq_10, lsl_10, lsq_11, lsl_11, lsq_12, lsl_12, lsq_13, lsl_13, lsq_14, lsl_14, tk_0, tk_1, tk_2, tk_3, tk_4, tk_5, tk_6, tk_7, tk_8, cs_n, cs_i, cs_l, cs_r, cs_u, nl, rt_s, rt_n, CST1, Nat.reduceAdd, Nat.reduceLeDiff, va_rf, rtOk, Bool.false_eq_true, Bool.true_eq_false, if_false, if_true, ite_true, ite_false, true_and, and_true, eq_self, ne_eq, not_false_eq_true, not_true_eq_false, false_implies, true_implies, and_self, reduceCtorEq, Nat.reduceBEq, Bool.or_false, Bool.false_or, Bool.or_true, Bool.true_or, if1_0, if1_1, if1_01, one_01, zer_01, lg_cmp_ge, lg_cmp_le, lg_cmp_gt, lg_cmp_lt, lg_cmp_eq, Classical.not_not, SHm hS, SHr hS, hqx]
      refine ⟨by omega, m_isTick (by omega) ?_⟩
      by_cases q2 : 0 ≤ w.toInt ∧ w.toInt ≤ 999
      · have hq2 := eq_true q2
        by_cases kz : kd = 0
        · have z5 : sg 55 t = 0 := by rw [k3, kz]; rfl
          have z6 : ((0 : Int32) ≤ 0) = True := z00
          by_cases h60 : N = 60
          · have hc : (nI N = 60) = True := eq_true (by rw [h60]; rfl)
            simp only [D_X12_look, N_X12_look, ↓reduceIte, vcS, vcC, vcI, gtF, ptF, inS, inV, fv0, fv1, fv2, fv3, fw0, fw1, lg_0, lg_1, lg_2, lg_3, lg_4, lg_5, lg_6, lg_7, lg_8, lg_9, lg_10, lg_11, lg_12, lg_13, lg_14, lsq_0, lsl_0, lsq_1, lsl_1, lsq_2, lsl_2, lsq_3, lsl_3, lsq_4, lsl_4, lsq_5, lsl_5, lsq_6, lsl_6, lsq_7, lsl_7, lsq_8, lsl_8, lsq_9, lsl_9, lsq_10, lsl_10, lsq_11, lsl_11, lsq_12, lsl_12, lsq_13, lsl_13, lsq_14, lsl_14, tk_0, tk_1, tk_2, tk_3, tk_4, tk_5, tk_6, tk_7, tk_8, cs_n, cs_i, cs_l, cs_r, cs_u, nl, rt_s, rt_n, CST1, Nat.reduceAdd, Nat.reduceLeDiff, va_rf, rtOk, Bool.false_eq_true, Bool.true_eq_false, if_false, if_true, ite_true, ite_false, true_and, and_true, eq_self, ne_eq, not_false_eq_true, not_true_eq_false, false_implies, true_implies, and_self, reduceCtorEq, Nat.reduceBEq, Bool.or_false, Bool.false_or, Bool.or_true, Bool.true_or, if1_0, if1_1, if1_01, one_01, zer_01, lg_cmp_ge, lg_cmp_le, lg_cmp_gt, lg_cmp_lt, lg_cmp_eq, Classical.not_not, SHm hS, SHr hS, hq2, z10, et, vt, z5, z6, hN, hc]
            exact hk4 t ⟨q1, hx⟩ q2 ht rfl z5 h60
          · have hc : (nI N = 60) = False := eq_false (fun z => h60 ((nI_eq (b := 60) (by omega) (by decide)).mp z))
            have eN : (nI N).toNatClampNeg = N := nI_clamp (by omega)
            have vN : vp_in (nI N) 60 := vp_in_nI (by omega) (by decide)
            have r1 : s2 sg 83 N (nI k') 48 47 = nI N := by rw [s2_n (by omega)]; exact hN
            have r2 : s2 sg 83 N (nI k') 56 t = nI m := by rw [s2_n (by omega)]; exact hm2
            have r3 : s2 sg 83 N (nI k') 82 (10 * k' + m) = sg 82 (10 * k' + m) := s2_n (by omega)
            have r4 : ∀ b, s2 (s2 sg 83 N (nI k')) 84 N b 48 47 = nI N := fun b => by rw [s2_n (by omega)]; exact r1
            have r5 : ∀ b, s2 (s2 (s2 sg 83 N (nI k')) 84 N b) 48 47 (nI (N + 1)) 48 47 = nI (N + 1) := fun b => s2_y ⟨rfl, rfl⟩
            have r6 : ∀ b, s2 (s2 (s2 sg 83 N (nI k')) 84 N b) 48 47 (nI (N + 1)) 84 N = b := fun b => by rw [s2_n (by omega), s2_y ⟨rfl, rfl⟩]
            have cc : (sg 82 (10 * k' + m) < w) = ¬ (w ≤ sg 82 (10 * k' + m)) := propext ⟨fun z => by ((try simp only [i_le, i_lt, i_eq, l_le, l_lt, l_eq, i_ne, l_ne, toL, l_add, l_sub1, LIT1, LIT2, Int.reduceNeg, ge_iff_le, gt_iff_lt] at *); omega), fun z => by ((try simp only [i_le, i_lt, i_eq, l_le, l_lt, l_eq, i_ne, l_ne, toL, l_add, l_sub1, LIT1, LIT2, Int.reduceNeg, ge_iff_le, gt_iff_lt] at *); omega)⟩
            have hk6 := hk5 k' t m ⟨q1, hx⟩ q2 hk' rfl ht rfl z5 (by omega) hm2 (by omega)
            simp only [D_X12_look, N_X12_look, ↓reduceIte, vcS, vcC, vcI, gtF, ptF, inS, inV, fv0, fv1, fv2, fv3, fw0, fw1, lg_0, lg_1, lg_2, lg_3, lg_4, lg_5, lg_6, lg_7, lg_8, lg_9, lg_10, lg_11, lg_12, lg_13, lg_14, lsq_0, lsl_0, lsq_1, lsl_1, lsq_2, lsl_2, lsq_3, lsl_3, lsq_4, lsl_4, lsq_5, lsl_5, lsq_6, lsl_6, lsq_7, lsl_7, lsq_8, lsl_8, lsq_9, lsl_9, lsq_10, lsl_10, lsq_11, lsl_11, lsq_12, lsl_12, lsq_13, lsl_13, lsq_14, lsl_14, tk_0, tk_1, tk_2, tk_3, tk_4, tk_5, tk_6, tk_7, tk_8, cs_n, cs_i, cs_l, cs_r, cs_u, nl, rt_s, rt_n, CST1, Nat.reduceAdd, Nat.reduceLeDiff, va_rf, rtOk, Bool.false_eq_true, Bool.true_eq_false, if_false, if_true, ite_true, ite_false, true_and, and_true, eq_self, ne_eq, not_false_eq_true, not_true_eq_false, false_implies, true_implies, and_self, reduceCtorEq, Nat.reduceBEq, Bool.or_false, Bool.false_or, Bool.or_true, Bool.true_or, if1_0, if1_1, if1_01, one_01, zer_01, lg_cmp_ge, lg_cmp_le, lg_cmp_gt, lg_cmp_lt, lg_cmp_eq, Classical.not_not, SHm hS, SHr hS, hq2, z10, et, vt, z5, z6, hN, hc, eN, vN, r1, r2, r3, ml10, nI_add, ei, vi, cc, r4, r5, r6, nI_1, nI_pred]
            exact ⟨fun g => hk6.2 g, fun g => hk6.1 g⟩
        · have z6 : (nI kd ≤ 0) = False := eq_false (nI_nle (by omega) (by omega))
          simp only [D_X12_look, N_X12_look, ↓reduceIte, vcS, vcC, vcI, gtF, ptF, inS, inV, fv0, fv1, fv2, fv3, fw0, fw1, lg_0, lg_1, lg_2, lg_3, lg_4, lg_5, lg_6, lg_7, lg_8, lg_9, lg_10, lg_11, lg_12, lg_13, lg_14, lsq_0, lsl_0, lsq_1, lsl_1, lsq_2, lsl_2, lsq_3, lsl_3, lsq_4, lsl_4, lsq_5, lsl_5, lsq_6, lsl_6, lsq_7, lsl_7, lsq_8, lsl_8, lsq_9, lsl_9, lsq_10, lsl_10, lsq_11, lsl_11, lsq_12, lsl_12, lsq_13, lsl_13, lsq_14, lsl_14, tk_0, tk_1, tk_2, tk_3, tk_4, tk_5, tk_6, tk_7, tk_8, cs_n, cs_i, cs_l, cs_r, cs_u, nl, rt_s, rt_n, CST1, Nat.reduceAdd, Nat.reduceLeDiff, va_rf, rtOk, Bool.false_eq_true, Bool.true_eq_false, if_false, if_true, ite_true, ite_false, true_and, and_true, eq_self, ne_eq, not_false_eq_true, not_true_eq_false, false_implies, true_implies, and_self, reduceCtorEq, Nat.reduceBEq, Bool.or_false, Bool.false_or, Bool.or_true, Bool.true_or, if1_0, if1_1, if1_01, one_01, zer_01, lg_cmp_ge, lg_cmp_le, lg_cmp_gt, lg_cmp_lt, lg_cmp_eq, Classical.not_not, SHm hS, SHr hS, hq2, z10, et, vt, k3, z6]
          exact hk3 t ⟨q1, hx⟩ q2 ht rfl (by rw [k3]; exact nI_ne0 (by omega) (by omega))
      · have hq2 := eq_false q2
        simp only [D_X12_look, N_X12_look, ↓reduceIte, vcS, vcC, vcI, gtF, ptF, inS, inV, fv0, fv1, fv2, fv3, fw0, fw1, lg_0, lg_1, lg_2, lg_3, lg_4, lg_5, lg_6, lg_7, lg_8, lg_9, lg_10, lg_11, lg_12, lg_13, lg_14, lsq_0, lsl_0, lsq_1, lsl_1, lsq_2, lsl_2, lsq_3, lsl_3, lsq_4, lsl_4, lsq_5, lsl_5, lsq_6, lsl_6, lsq_7, lsl_7, lsq_8, lsl_8, lsq_9, lsl_9, lsq_10, lsl_10, lsq_11, lsl_11, lsq_12, lsl_12, lsq_13, lsl_13, lsq_14, lsl_14, tk_0, tk_1, tk_2, tk_3, tk_4, tk_5, tk_6, tk_7, tk_8, cs_n, cs_i, cs_l, cs_r, cs_u, nl, rt_s, rt_n, CST1, Nat.reduceAdd, Nat.reduceLeDiff, va_rf, rtOk, Bool.false_eq_true, Bool.true_eq_false, if_false, if_true, ite_true, ite_false, true_and, and_true, eq_self, ne_eq, not_false_eq_true, not_true_eq_false, false_implies, true_implies, and_self, reduceCtorEq, Nat.reduceBEq, Bool.or_false, Bool.false_or, Bool.or_true, Bool.true_or, if1_0, if1_1, if1_01, one_01, zer_01, lg_cmp_ge, lg_cmp_le, lg_cmp_gt, lg_cmp_lt, lg_cmp_eq, Classical.not_not, SHm hS, SHr hS, hq2]
        exact hk2 ⟨q1, hx⟩ q2
    · have hqx := eq_false hx
      simp only [D_X12_look, N_X12_look, ↓reduceIte, vcS, vcC, vcI, gtF, ptF, inS, inV, fv0, fv1, fv2, fv3, fw0, fw1, lg_0, lg_1, lg_2, lg_3, lg_4, lg_5, lg_6, lg_7, lg_8, lg_9, lg_10, lg_11, lg_12, lg_13, lg_14, lsq_0, lsl_0, lsq_1, lsl_1, lsq_2, lsl_2, lsq_3, lsl_3, lsq_4, lsl_4, lsq_5, lsl_5, lsq_6, lsl_6, lsq_7, lsl_7, lsq_8, lsl_8, lsq_9, lsl_9, lsq_10, lsl_10, lsq_11, lsl_11, lsq_12, lsl_12, lsq_13, lsl_13, lsq_14, lsl_14, tk_0, tk_1, tk_2, tk_3, tk_4, tk_5, tk_6, tk_7, tk_8, cs_n, cs_i, cs_l, cs_r, cs_u, nl, rt_s, rt_n, CST1, Nat.reduceAdd, Nat.reduceLeDiff, va_rf, rtOk, Bool.false_eq_true, Bool.true_eq_false, if_false, if_true, ite_true, ite_false, true_and, and_true, eq_self, ne_eq, not_false_eq_true, not_true_eq_false, false_implies, true_implies, and_self, reduceCtorEq, Nat.reduceBEq, Bool.or_false, Bool.false_or, Bool.or_true, Bool.true_or, if1_0, if1_1, if1_01, one_01, zer_01, lg_cmp_ge, lg_cmp_le, lg_cmp_gt, lg_cmp_lt, lg_cmp_eq, Classical.not_not, SHm hS, SHr hS, hqx, z10]
      exact hk1 (fun z => hx z.2)
  · have hq1 := eq_false q1
    simp only [D_X12_look, N_X12_look, ↓reduceIte, vcS, vcC, vcI, gtF, ptF, inS, inV, fv0, fv1, fv2, fv3, fw0, fw1, lg_0, lg_1, lg_2, lg_3, lg_4, lg_5, lg_6, lg_7, lg_8, lg_9, lg_10, lg_11, lg_12, lg_13, lg_14, lsq_0, lsl_0, lsq_1, lsl_1, lsq_2, lsl_2, lsq_3, lsl_3, lsq_4, lsl_4, lsq_5, lsl_5, lsq_6, lsl_6, lsq_7, lsl_7, lsq_8, lsl_8, lsq_9, lsl_9, lsq_10, lsl_10, lsq_11, lsl_11, lsq_12, lsl_12, lsq_13, lsl_13, lsq_14, lsl_14, tk_0, tk_1, tk_2, tk_3, tk_4, tk_5, tk_6, tk_7, tk_8, cs_n, cs_i, cs_l, cs_r, cs_u, nl, rt_s, rt_n, CST1, Nat.reduceAdd, Nat.reduceLeDiff, va_rf, rtOk, Bool.false_eq_true, Bool.true_eq_false, if_false, if_true, ite_true, ite_false, true_and, and_true, eq_self, ne_eq, not_false_eq_true, not_true_eq_false, false_implies, true_implies, and_self, reduceCtorEq, Nat.reduceBEq, Bool.or_false, Bool.false_or, Bool.or_true, Bool.true_or, if1_0, if1_1, if1_01, one_01, zer_01, lg_cmp_ge, lg_cmp_le, lg_cmp_gt, lg_cmp_lt, lg_cmp_eq, Classical.not_not, SHm hS, SHr hS, hq1, z10]
    exact hk1 (fun z => q1 z.1)
set_option maxHeartbeats 4000000 in
set_option maxRecDepth 100000 in
theorem b_look {k x w : Int32} (hS : Sh mu ro) (hd : 3 ≤ d) (hT : S_tk mu ro n T tb) (hI : I_tk sg T tb) (hP : I_kp sg N) (hk : ∀ r sg2 N', I_kp sg2 N' → Fr [10] sg sg2 → K r sg2) : aCall d 131 [.ref 0, .int k, .int x, .int w] n mu ro sg (fun r1 sg1 => aCall d 234 [.ref 48, .int k, .int x, .int w] n mu ro sg1 (fun r2 sg2 => r1 = r2 ∧ K r1 sg2)) := by
  obtain ⟨j1, ⟨j2, j3⟩, j4, j5⟩ := id hP
  have h8 := hI.2.1
  have z31 : ∀ t : Nat, t < T → ∀ k3 : Int32, ¬ sg 55 t = 0 → sg 55 t = 0 → False := fun _ _ _ a b => a b
  refine c_look hS hd hT hI j2 j4 (fun q => ?_) (fun q q2 => ?_) (fun t q q2 ht hx q3 => ?_) (fun t q q2 ht hx q3 q4 => ?_) (fun k' t m q q2 hk4 hkx ht hx q3 hm hm2 q4 => ⟨fun g => ?_, fun g => ?_⟩)
  · exact m_look hS hd hI j3 j4 (fun _ => ⟨rfl, hk _ _ _ hP Fr.rfl⟩) (fun z => absurd z q) (fun t z => absurd z q) (fun t z => absurd z q) (fun k' t m z => absurd z q)
  · exact m_look hS hd hI j3 j4 (fun z => absurd q z) (fun _ _ => ⟨rfl, hk _ _ _ hP Fr.rfl⟩) (fun t _ z => absurd z q2) (fun t _ z => absurd z q2) (fun k' t m _ z => absurd z q2)
  · refine m_look hS hd hI j3 j4 (fun z => absurd q z) (fun _ z => absurd q2 z) (fun _ _ _ _ _ _ => ⟨rfl, hk _ _ _ hP Fr.rfl⟩) (fun t2 _ _ ht2 hx2 z => ?_) (fun k' t2 m _ _ _ _ ht2 hx2 z => ?_)
    all_goals
      have z1 : t = t2 := nI_inj (by omega) (by omega) hx hx2
      subst z1
      exact absurd z q3
  · refine m_look hS hd hI j3 j4 (fun z => absurd q z) (fun _ z => absurd q2 z) (fun t2 _ _ ht2 hx2 z => ?_) (fun _ _ _ _ _ _ _ => ⟨rfl, hk _ _ _ hP Fr.rfl⟩) (fun k' t2 m _ _ _ _ ht2 hx2 z _ _ z2 => absurd q4 (by omega))
    have z1 : t = t2 := nI_inj (by omega) (by omega) hx hx2
    subst z1
    exact absurd q3 z
  · have fr1 : Fr [10] sg (s2 (s2 sg 35 3 (nI (N + 1))) 37 k' (sg 37 k' + 1)) := by ((repeat (refine Fr.putq (m := 10) ?_ rfl (by decide))); exact Fr.rfl)
    have hI' := hI.fr hT (fr1.to (by decide) (by decide))
    have e : ∀ a j, a ≠ 35 → a ≠ 37 → s2 (s2 sg 35 3 (nI (N + 1))) 37 k' (sg 37 k' + 1) a j = sg a j := fun a j h1 h2 => by rw [s2_n (by omega), s2_n (by omega)]
    refine m_look hS hd hI' (by rw [e _ _ (by decide) (by decide)]; exact j3) j4 (fun z => absurd q z) (fun _ z => absurd q2 z) (fun t2 _ _ ht2 hx2 z => ?_) (fun t2 _ _ _ _ _ z => absurd z (by omega)) (fun k2 t2 m2 _ _ hk2 hkx2 ht2 hx2 z hm3 hm4 _ => ?_)
    · have z1 : t = t2 := nI_inj (by omega) (by omega) hx hx2
      subst z1
      rw [e _ _ (by decide) (by decide)] at z
      exact absurd q3 z
    · have z1 : t = t2 := nI_inj (by omega) (by omega) hx hx2
      have z2 : k' = k2 := nI_inj (by omega) (by omega) hkx hkx2
      subst z1 z2
      rw [e _ _ (by decide) (by decide)] at hm4
      have z3 : m = m2 := nI_inj (by omega) (by omega) hm2 hm4
      subst z3
      rw [e _ _ (by decide) (by decide), ← (j1 (10 * k' + m) (by omega)).1]
      refine ⟨fun g2 => ⟨rfl, hk _ _ (N + 1) (kp_add (k := k') (b := true) hP q4 hk4 (fun j => ⟨by ((try simp (disch := omega) only [s2_y, s2_n, rg_y, rg_n, fl_y, fl_n]); (try with_reducible rfl); (try assumption)), by ((try simp (disch := omega) only [s2_y, s2_n, rg_y, rg_n, fl_y, fl_n]); (try with_reducible rfl); (try assumption))⟩) (by ((try simp (disch := omega) only [s2_y, s2_n, rg_y, rg_n, fl_y, fl_n]); (try with_reducible rfl); (try assumption))) (by ((try simp (disch := omega) only [s2_y, s2_n, rg_y, rg_n, fl_y, fl_n]); (try with_reducible rfl); (try assumption))) (fun j => ?_) (fun j => ?_) (fun j => ?_) (fun j => ?_)) (by ((repeat (refine Fr.putq (m := 10) ?_ rfl (by decide))); exact Fr.rfl))⟩, fun g2 => absurd g g2⟩
      · by_cases y : j = k'
        · rw [if_pos y, y]; ((try simp (disch := omega) only [s2_y, s2_n, rg_y, rg_n, fl_y, fl_n]); (try with_reducible rfl); (try assumption))
        · rw [if_neg y]; ((try simp (disch := omega) only [s2_y, s2_n, rg_y, rg_n, fl_y, fl_n]); (try with_reducible rfl); (try assumption))
      · rw [if_neg (by simp)]; ((try simp (disch := omega) only [s2_y, s2_n, rg_y, rg_n, fl_y, fl_n]); (try with_reducible rfl); (try assumption))
      · by_cases y : j = N
        · rw [if_pos y, y]; ((try simp (disch := omega) only [s2_y, s2_n, rg_y, rg_n, fl_y, fl_n]); (try with_reducible rfl); (try assumption))
        · rw [if_neg y]; ((try simp (disch := omega) only [s2_y, s2_n, rg_y, rg_n, fl_y, fl_n]); (try with_reducible rfl); (try assumption))
      · by_cases y : j = N
        · rw [if_pos y, y, if_pos rfl]; ((try simp (disch := omega) only [s2_y, s2_n, rg_y, rg_n, fl_y, fl_n]); (try with_reducible rfl); (try assumption))
        · rw [if_neg y]; ((try simp (disch := omega) only [s2_y, s2_n, rg_y, rg_n, fl_y, fl_n]); (try with_reducible rfl); (try assumption))
  · have fr1 : Fr [10] sg (s2 (s2 (s2 sg 35 3 (nI (N + 1))) 37 k' (sg 37 k' + 1)) 38 k' (sg 38 k' + 1)) := by ((repeat (refine Fr.putq (m := 10) ?_ rfl (by decide))); exact Fr.rfl)
    have hI' := hI.fr hT (fr1.to (by decide) (by decide))
    have e : ∀ a j, a ≠ 35 → a ≠ 37 → a ≠ 38 → s2 (s2 (s2 sg 35 3 (nI (N + 1))) 37 k' (sg 37 k' + 1)) 38 k' (sg 38 k' + 1) a j = sg a j := fun a j h1 h2 h3 => by rw [s2_n (by omega), s2_n (by omega), s2_n (by omega)]
    refine m_look hS hd hI' (by rw [e _ _ (by decide) (by decide) (by decide)]; exact j3) j4 (fun z => absurd q z) (fun _ z => absurd q2 z) (fun t2 _ _ ht2 hx2 z => ?_) (fun t2 _ _ _ _ _ z => absurd z (by omega)) (fun k2 t2 m2 _ _ hk2 hkx2 ht2 hx2 z hm3 hm4 _ => ?_)
    · have z1 : t = t2 := nI_inj (by omega) (by omega) hx hx2
      subst z1
      rw [e _ _ (by decide) (by decide) (by decide)] at z
      exact absurd q3 z
    · have z1 : t = t2 := nI_inj (by omega) (by omega) hx hx2
      have z2 : k' = k2 := nI_inj (by omega) (by omega) hkx hkx2
      subst z1 z2
      rw [e _ _ (by decide) (by decide) (by decide)] at hm4
      have z3 : m = m2 := nI_inj (by omega) (by omega) hm2 hm4
      subst z3
      rw [e _ _ (by decide) (by decide) (by decide), ← (j1 (10 * k' + m) (by omega)).1]
      refine ⟨fun g2 => absurd g2 g, fun g2 => ⟨rfl, hk _ _ (N + 1) (kp_add (k := k') (b := false) hP q4 hk4 (fun j => ⟨by ((try simp (disch := omega) only [s2_y, s2_n, rg_y, rg_n, fl_y, fl_n]); (try with_reducible rfl); (try assumption)), by ((try simp (disch := omega) only [s2_y, s2_n, rg_y, rg_n, fl_y, fl_n]); (try with_reducible rfl); (try assumption))⟩) (by ((try simp (disch := omega) only [s2_y, s2_n, rg_y, rg_n, fl_y, fl_n]); (try with_reducible rfl); (try assumption))) (by ((try simp (disch := omega) only [s2_y, s2_n, rg_y, rg_n, fl_y, fl_n]); (try with_reducible rfl); (try assumption))) (fun j => ?_) (fun j => ?_) (fun j => ?_) (fun j => ?_)) (by ((repeat (refine Fr.putq (m := 10) ?_ rfl (by decide))); exact Fr.rfl))⟩⟩
      · by_cases y : j = k'
        · rw [if_pos y, y]; ((try simp (disch := omega) only [s2_y, s2_n, rg_y, rg_n, fl_y, fl_n]); (try with_reducible rfl); (try assumption))
        · rw [if_neg y]; ((try simp (disch := omega) only [s2_y, s2_n, rg_y, rg_n, fl_y, fl_n]); (try with_reducible rfl); (try assumption))
      · by_cases y : j = k'
        · rw [if_pos ⟨y, rfl⟩, y]; ((try simp (disch := omega) only [s2_y, s2_n, rg_y, rg_n, fl_y, fl_n]); (try with_reducible rfl); (try assumption))
        · rw [if_neg (fun z => y z.1)]; ((try simp (disch := omega) only [s2_y, s2_n, rg_y, rg_n, fl_y, fl_n]); (try with_reducible rfl); (try assumption))
      · by_cases y : j = N
        · rw [if_pos y, y]; ((try simp (disch := omega) only [s2_y, s2_n, rg_y, rg_n, fl_y, fl_n]); (try with_reducible rfl); (try assumption))
        · rw [if_neg y]; ((try simp (disch := omega) only [s2_y, s2_n, rg_y, rg_n, fl_y, fl_n]); (try with_reducible rfl); (try assumption))
      · by_cases y : j = N
        · rw [if_pos y, y, if_neg (by decide)]; ((try simp (disch := omega) only [s2_y, s2_n, rg_y, rg_n, fl_y, fl_n]); (try with_reducible rfl); (try assumption))
        · rw [if_neg y]; ((try simp (disch := omega) only [s2_y, s2_n, rg_y, rg_n, fl_y, fl_n]); (try with_reducible rfl); (try assumption))
end H58
