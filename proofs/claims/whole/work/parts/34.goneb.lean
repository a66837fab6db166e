/-! part 34: gone on both sides -/
section H34
variable {d n N : Nat} {mu : aM} {ro : aR} {sg : aS} {K : Option Value → aS → Prop}
theorem tkV_none {s : aS} {k : Nat} {l i w : Int32} (hk4 : k < 4) (hz : (s 85 k).toInt ≤ 60) (h : tkV s (nI k) l i w = none) : ∃ i' w' : Nat, i = nI i' ∧ w = nI w' ∧ i' + w' ≤ 60 := by
  have ez : (nI k).toNatClampNeg = k := nI_clamp (by omega)
  have tz : (nI k).toInt = k := nI_toInt (by omega)
  unfold tkV at h
  rw [if_neg (by omega), ez] at h
  by_cases h1 : 0 ≤ l.toInt ∧ l.toInt ≤ 2
  · rw [if_neg (not_not_intro h1)] at h
    by_cases h2 : tkG (0 ≤ (s 85 k).toInt) (s 86 k) (s 85 k) l i w = 0
    · obtain ⟨z1, z2, z3, z4, z5⟩ := tkG_0 h2
      obtain ⟨i', hi, hi2⟩ := i_of (x := i) (N := 60) (by omega) (by omega) (by decide)
      obtain ⟨w', hw, hw2⟩ := i_of (x := w) (N := 60) (by omega) (by omega) (by decide)
      have ti : i.toInt = i' := by rw [hi2]; exact nI_toInt (by omega)
      have tw : w.toInt = w' := by rw [hw2]; exact nI_toInt (by omega)
      exact ⟨i', w', hi2, hw2, by omega⟩
    · rw [if_neg h2] at h
      exact absurd h (by simp)
  · rw [if_pos h1] at h
    exact absurd h (by simp)
theorem z10 : ((1 : Int32) = 0) = False := eq_false (by decide)
theorem z00 : ((0 : Int32) ≤ 0) = True := eq_true (by decide)
theorem z90 : ((0 : Int32) ≤ -9) = False := eq_false (by decide)
set_option maxHeartbeats 4000000 in
set_option maxRecDepth 100000 in
theorem m_gone {x l i w : Int32} {L : Nat → Nat} (hS : Sh mu ro) (hd : 3 ≤ d) (hz : ∀ k, k < 4 → (sg 85 k).toInt ≤ 60) (hL : ∀ y, y < 64 → sg 75 y = if L y = 0 then -9 else nI (L y)) (hL2 : ∀ y, y < 64 → L y < 16) (hk1 : ∀ r f : Int32, tkV sg x l i w = some (r, f) → K (some (.int r)) (s2 sg 48 0 f)) (hk2 : ∀ k i' w' : Nat, tkV sg x l i w = none → x = nI k → i = nI i' → w = nI w' → k < 4 → i' + w' ≤ 60 → K (some (.int (gnR sg L k i' w'))) (s2 sg 48 0 0)) : aCall d 218 [.ref 48, .int x, .int l, .int i, .int w] n mu ro sg K := by
  refine aCall_start (mL := 10) (cc := cX12_gone) (o := 12) (ret := (some .int)) 5 (by decide) (by decide +kernel) rfl rfl rfl rfl (Nat.le_of_ble_eq_true rfl) (fun G hC hG => ?_)
  simp only [exL, List.cons_append, List.nil_append, rp_0, rp_1, rp_2, rp_3, rp_4, rp_5, rp_6, rp_7, rp_8, rp_9, rp_10, rp_11, List.append_nil]
  refine hG (fun q => q == 74) 80 _ _ _ _ (Nat.le_of_ble_eq_true rfl) ?_
  simp only [D_X12_gone, N_X12_gone, ↓reduceIte, vcS, vcC, vcI, gtF, ptF, inS, inV, fv0, fv1, fv2, fv3, fw0, fw1, lg_0, lg_1, lg_2, lg_3, lg_4, lg_5, lg_6, lg_7, lg_8, lg_9, lg_10, lg_11, lg_12, lg_13, lg_14, lsq_0, lsl_0, lsq_1, lsl_1, lsq_2, lsl_2, lsq_3, lsl_3, lsq_4, lsl_4, lsq_5, lsl_5, lsq_6, lsl_6, lsq_7, lsl_7, lsq_8, lsl_8, lsq_9, lsl_9, lsq_10, lsl_10, lsq_11, lsl_11, lsq_12, lsl_12, lsq_13, lsl_13, lsq_14, lsl_14, tk_0, tk_1, tk_2, tk_3, tk_4, tk_5, tk_6, tk_7, tk_8, cs_n, cs_i, cs_l, cs_r, cs_u, nl, rt_s, rt_n, CST1, Nat.reduceAdd, Nat.reduceLeDiff, va_rf, rtOk, Bool.false_eq_true, Bool.true_eq_false, if_false, if_true, ite_true, ite_false, true_and, and_true, eq_self, ne_eq, not_false_eq_true, not_true_eq_false, false_implies, true_implies, and_self, reduceCtorEq, Nat.reduceBEq, Bool.or_false, Bool.false_or, Bool.or_true, Bool.true_or, if1_0, if1_1, if1_01, one_01, zer_01, lg_cmp_ge, lg_cmp_le, lg_cmp_gt, lg_cmp_lt, lg_cmp_eq, Classical.not_not, SHm hS, SHr hS]
  by_cases hok : 0 ≤ x.toInt ∧ x.toInt ≤ 3
  · obtain ⟨k, hk4, rfl⟩ := k_of hok
    refine ⟨by omega, m_noSheetN (by omega) hk4 ?_⟩
    simp only [D_X12_gone, N_X12_gone, ↓reduceIte, vcS, vcC, vcI, gtF, ptF, inS, inV, fv0, fv1, fv2, fv3, fw0, fw1, lg_0, lg_1, lg_2, lg_3, lg_4, lg_5, lg_6, lg_7, lg_8, lg_9, lg_10, lg_11, lg_12, lg_13, lg_14, lsq_0, lsl_0, lsq_1, lsl_1, lsq_2, lsl_2, lsq_3, lsl_3, lsq_4, lsl_4, lsq_5, lsl_5, lsq_6, lsl_6, lsq_7, lsl_7, lsq_8, lsl_8, lsq_9, lsl_9, lsq_10, lsl_10, lsq_11, lsl_11, lsq_12, lsl_12, lsq_13, lsl_13, lsq_14, lsl_14, tk_0, tk_1, tk_2, tk_3, tk_4, tk_5, tk_6, tk_7, tk_8, cs_n, cs_i, cs_l, cs_r, cs_u, nl, rt_s, rt_n, CST1, Nat.reduceAdd, Nat.reduceLeDiff, va_rf, rtOk, Bool.false_eq_true, Bool.true_eq_false, if_false, if_true, ite_true, ite_false, true_and, and_true, eq_self, ne_eq, not_false_eq_true, not_true_eq_false, false_implies, true_implies, and_self, reduceCtorEq, Nat.reduceBEq, Bool.or_false, Bool.false_or, Bool.or_true, Bool.true_or, if1_0, if1_1, if1_01, one_01, zer_01, lg_cmp_ge, lg_cmp_le, lg_cmp_gt, lg_cmp_lt, lg_cmp_eq, Classical.not_not, SHm hS, SHr hS]
    refine ⟨by omega, m_bN hS (by omega) hk4 (fun r f h1 h2 => ?_) (fun h1 => ?_)⟩
    · have hq : (0 ≤ r) = False := eq_false (by ((try simp only [i_le, i_lt, i_eq, l_le, l_lt, l_eq, i_ne, l_ne, toL, l_add, l_sub1, LIT1, LIT2, Int.reduceNeg, ge_iff_le, gt_iff_lt] at *); omega))
      simp only [D_X12_gone, N_X12_gone, ↓reduceIte, vcS, vcC, vcI, gtF, ptF, inS, inV, fv0, fv1, fv2, fv3, fw0, fw1, lg_0, lg_1, lg_2, lg_3, lg_4, lg_5, lg_6, lg_7, lg_8, lg_9, lg_10, lg_11, lg_12, lg_13, lg_14, lsq_0, lsl_0, lsq_1, lsl_1, lsq_2, lsl_2, lsq_3, lsl_3, lsq_4, lsl_4, lsq_5, lsl_5, lsq_6, lsl_6, lsq_7, lsl_7, lsq_8, lsl_8, lsq_9, lsl_9, lsq_10, lsl_10, lsq_11, lsl_11, lsq_12, lsl_12, lsq_13, lsl_13, lsq_14, lsl_14, tk_0, tk_1, tk_2, tk_3, tk_4, tk_5, tk_6, tk_7, tk_8, cs_n, cs_i, cs_l, cs_r, cs_u, nl, rt_s, rt_n, CST1, Nat.reduceAdd, Nat.reduceLeDiff, va_rf, rtOk, Bool.false_eq_true, Bool.true_eq_false, if_false, if_true, ite_true, ite_false, true_and, and_true, eq_self, ne_eq, not_false_eq_true, not_true_eq_false, false_implies, true_implies, and_self, reduceCtorEq, Nat.reduceBEq, Bool.or_false, Bool.false_or, Bool.or_true, Bool.true_or, if1_0, if1_1, if1_01, one_01, zer_01, lg_cmp_ge, lg_cmp_le, lg_cmp_gt, lg_cmp_lt, lg_cmp_eq, Classical.not_not, SHm hS, SHr hS, ↓im_F hq, ↓im_FN hq, hq]
      exact hk1 r f h1
    · obtain ⟨i', w', rfl, rfl, hiw⟩ := tkV_none hk4 (hz k hk4) h1
      have hk9 := hk2 k i' w' h1 rfl rfl rfl hk4 hiw
      have tw : (nI w').toInt = w' := nI_toInt (by omega)
      have h10 : (10 < nI w') = ¬ w' ≤ 10 := propext ⟨fun z => by ((try simp only [i_le, i_lt, i_eq, l_le, l_lt, l_eq, i_ne, l_ne, toL, l_add, l_sub1, LIT1, LIT2, Int.reduceNeg, ge_iff_le, gt_iff_lt] at *); omega), fun z => by ((try simp only [i_le, i_lt, i_eq, l_le, l_lt, l_eq, i_ne, l_ne, toL, l_add, l_sub1, LIT1, LIT2, Int.reduceNeg, ge_iff_le, gt_iff_lt] at *); omega)⟩
      simp only [D_X12_gone, N_X12_gone, ↓reduceIte, vcS, vcC, vcI, gtF, ptF, inS, inV, fv0, fv1, fv2, fv3, fw0, fw1, lg_0, lg_1, lg_2, lg_3, lg_4, lg_5, lg_6, lg_7, lg_8, lg_9, lg_10, lg_11, lg_12, lg_13, lg_14, lsq_0, lsl_0, lsq_1, lsl_1, lsq_2, lsl_2, lsq_3, lsl_3, lsq_4, lsl_4, lsq_5, lsl_5, lsq_6, lsl_6, lsq_7, lsl_7, lsq_8, lsl_8, lsq_9, lsl_9, lsq_10, lsl_10, lsq_11, lsl_11, lsq_12, lsl_12, lsq_13, lsl_13, lsq_14, lsl_14, tk_0, tk_1, tk_2, tk_3, tk_4, tk_5, tk_6, tk_7, tk_8, cs_n, cs_i, cs_l, cs_r, cs_u, nl, rt_s, rt_n, CST1, Nat.reduceAdd, Nat.reduceLeDiff, va_rf, rtOk, Bool.false_eq_true, Bool.true_eq_false, if_false, if_true, ite_true, ite_false, true_and, and_true, eq_self, ne_eq, not_false_eq_true, not_true_eq_false, false_implies, true_implies, and_self, reduceCtorEq, Nat.reduceBEq, Bool.or_false, Bool.false_or, Bool.or_true, Bool.true_or, if1_0, if1_1, if1_01, one_01, zer_01, lg_cmp_ge, lg_cmp_le, lg_cmp_gt, lg_cmp_lt, lg_cmp_eq, Classical.not_not, SHm hS, SHr hS, z00, ml60, nI_add, h10]
      unfold gnR at hk9
      refine ⟨fun q => ⟨by omega, m_refused hS ?_⟩, fun q => ⟨by omega, m_areCells hS (by omega) (by omega) ?_⟩⟩
      · simp only [D_X12_gone, N_X12_gone, ↓reduceIte, vcS, vcC, vcI, gtF, ptF, inS, inV, fv0, fv1, fv2, fv3, fw0, fw1, lg_0, lg_1, lg_2, lg_3, lg_4, lg_5, lg_6, lg_7, lg_8, lg_9, lg_10, lg_11, lg_12, lg_13, lg_14, lsq_0, lsl_0, lsq_1, lsl_1, lsq_2, lsl_2, lsq_3, lsl_3, lsq_4, lsl_4, lsq_5, lsl_5, lsq_6, lsl_6, lsq_7, lsl_7, lsq_8, lsl_8, lsq_9, lsl_9, lsq_10, lsl_10, lsq_11, lsl_11, lsq_12, lsl_12, lsq_13, lsl_13, lsq_14, lsl_14, tk_0, tk_1, tk_2, tk_3, tk_4, tk_5, tk_6, tk_7, tk_8, cs_n, cs_i, cs_l, cs_r, cs_u, nl, rt_s, rt_n, CST1, Nat.reduceAdd, Nat.reduceLeDiff, va_rf, rtOk, Bool.false_eq_true, Bool.true_eq_false, if_false, if_true, ite_true, ite_false, true_and, and_true, eq_self, ne_eq, not_false_eq_true, not_true_eq_false, false_implies, true_implies, and_self, reduceCtorEq, Nat.reduceBEq, Bool.or_false, Bool.false_or, Bool.or_true, Bool.true_or, if1_0, if1_1, if1_01, one_01, zer_01, lg_cmp_ge, lg_cmp_le, lg_cmp_gt, lg_cmp_lt, lg_cmp_eq, Classical.not_not, SHm hS, SHr hS]
        rw [if_neg (fun z => q z.1)] at hk9
        exact hk9
      · simp only [D_X12_gone, N_X12_gone, ↓reduceIte, vcS, vcC, vcI, gtF, ptF, inS, inV, fv0, fv1, fv2, fv3, fw0, fw1, lg_0, lg_1, lg_2, lg_3, lg_4, lg_5, lg_6, lg_7, lg_8, lg_9, lg_10, lg_11, lg_12, lg_13, lg_14, lsq_0, lsl_0, lsq_1, lsl_1, lsq_2, lsl_2, lsq_3, lsl_3, lsq_4, lsl_4, lsq_5, lsl_5, lsq_6, lsl_6, lsq_7, lsl_7, lsq_8, lsl_8, lsq_9, lsl_9, lsq_10, lsl_10, lsq_11, lsl_11, lsq_12, lsl_12, lsq_13, lsl_13, lsq_14, lsl_14, tk_0, tk_1, tk_2, tk_3, tk_4, tk_5, tk_6, tk_7, tk_8, cs_n, cs_i, cs_l, cs_r, cs_u, nl, rt_s, rt_n, CST1, Nat.reduceAdd, Nat.reduceLeDiff, va_rf, rtOk, Bool.false_eq_true, Bool.true_eq_false, if_false, if_true, ite_true, ite_false, true_and, and_true, eq_self, ne_eq, not_false_eq_true, not_true_eq_false, false_implies, true_implies, and_self, reduceCtorEq, Nat.reduceBEq, Bool.or_false, Bool.false_or, Bool.or_true, Bool.true_or, if1_0, if1_1, if1_01, one_01, zer_01, lg_cmp_ge, lg_cmp_le, lg_cmp_gt, lg_cmp_lt, lg_cmp_eq, Classical.not_not, SHm hS, SHr hS, LIT1]
        refine ⟨fun q2 => ?_, fun q2 => ⟨by omega, m_refused hS ?_⟩⟩
        · rw [if_pos ⟨q, q2⟩] at hk9
          obtain ⟨g, hg⟩ : ∃ g : Nat → Nat, g = fun j => (sg 87 (60 * k + i' + j)).toNatClampNeg := ⟨_, rfl⟩
          rw [← hg] at hk9
          have ha := allB_at w' _ q2
          have hg2 : ∀ j, j < w' → sg 87 (60 * k + i' + j) = nI (g j) ∧ g j < 4 := by
            intro j hj
            obtain ⟨a1, a2⟩ := ha j hj
            have a3 := i_cl a1
            have e : g j = (sg 87 (60 * k + i' + j)).toNatClampNeg := by rw [hg]
            rw [e]
            exact ⟨i_eq.mpr (by rw [nI_toInt (by omega)]; omega), by omega⟩
          have loop : ∀ (m x s : Nat) (v : Value), x + m = w' → s < 16 → gnF L (sg 48 39) g w' 0 0 = gnF L (sg 48 39) g m x s → AW G 10 n 0 0 mu ro sg 74 [.ref 48, .int (nI k), .int l, .int (nI i'), .int (nI w'), .int 0, .int (nI (60 * k + i')), .int (nI s), .int (nI x), v] [] := by
            intro m
            induction m with
            | zero =>
              intro x s v hx hs he
              have hq : (nI w' ≤ nI x) = True := eq_true (nI_le (by omega) (by omega))
              refine hG (fun q => q == 74) 80 _ _ _ _ (Nat.le_of_ble_eq_true rfl) ?_
              simp only [D_X12_gone, N_X12_gone, ↓reduceIte, vcS, vcC, vcI, gtF, ptF, inS, inV, fv0, fv1, fv2, fv3, fw0, fw1, lg_0, lg_1, lg_2, lg_3, lg_4, lg_5, lg_6, lg_7, lg_8, lg_9, lg_10, lg_11, lg_12, lg_13, lg_14, lsq_0, lsl_0, lsq_1, lsl_1, lsq_2, lsl_2, lsq_3, lsl_3, lsq_4, lsl_4, lsq_5, lsl_5, lsq_6, lsl_6, lsq_7, lsl_7, lsq_8, lsl_8, lsq_9, lsl_9, lsq_10, lsl_10, lsq_11, lsl_11, lsq_12, lsl_12, lsq_13, lsl_13, lsq_14, lsl_14, tk_0, tk_1, tk_2, tk_3, tk_4, tk_5, tk_6, tk_7, tk_8, cs_n, cs_i, cs_l, cs_r, cs_u, nl, rt_s, rt_n, CST1, Nat.reduceAdd, Nat.reduceLeDiff, va_rf, rtOk, Bool.false_eq_true, Bool.true_eq_false, if_false, if_true, ite_true, ite_false, true_and, and_true, eq_self, ne_eq, not_false_eq_true, not_true_eq_false, false_implies, true_implies, and_self, reduceCtorEq, Nat.reduceBEq, Bool.or_false, Bool.false_or, Bool.or_true, Bool.true_or, if1_0, if1_1, if1_01, one_01, zer_01, lg_cmp_ge, lg_cmp_le, lg_cmp_gt, lg_cmp_lt, lg_cmp_eq, Classical.not_not, ↓im_T hq, ↓im_TN hq, hq, SHm hS, SHr hS]
              rw [he] at hk9
              have : w' = x := by omega
              rw [this]
              refine ⟨by omega, m_refused hS ?_⟩
              simp only [D_X12_gone, N_X12_gone, ↓reduceIte, vcS, vcC, vcI, gtF, ptF, inS, inV, fv0, fv1, fv2, fv3, fw0, fw1, lg_0, lg_1, lg_2, lg_3, lg_4, lg_5, lg_6, lg_7, lg_8, lg_9, lg_10, lg_11, lg_12, lg_13, lg_14, lsq_0, lsl_0, lsq_1, lsl_1, lsq_2, lsl_2, lsq_3, lsl_3, lsq_4, lsl_4, lsq_5, lsl_5, lsq_6, lsl_6, lsq_7, lsl_7, lsq_8, lsl_8, lsq_9, lsl_9, lsq_10, lsl_10, lsq_11, lsl_11, lsq_12, lsl_12, lsq_13, lsl_13, lsq_14, lsl_14, tk_0, tk_1, tk_2, tk_3, tk_4, tk_5, tk_6, tk_7, tk_8, cs_n, cs_i, cs_l, cs_r, cs_u, nl, rt_s, rt_n, CST1, Nat.reduceAdd, Nat.reduceLeDiff, va_rf, rtOk, Bool.false_eq_true, Bool.true_eq_false, if_false, if_true, ite_true, ite_false, true_and, and_true, eq_self, ne_eq, not_false_eq_true, not_true_eq_false, false_implies, true_implies, and_self, reduceCtorEq, Nat.reduceBEq, Bool.or_false, Bool.false_or, Bool.or_true, Bool.true_or, if1_0, if1_1, if1_01, one_01, zer_01, lg_cmp_ge, lg_cmp_le, lg_cmp_gt, lg_cmp_lt, lg_cmp_eq, Classical.not_not, SHm hS, SHr hS]
              exact hk9
            | succ m ih =>
              intro x s v hx hs he
              have hq : (nI w' ≤ nI x) = False := eq_false (nI_ge (by omega) (by omega))
              have ex : (nI (60 * k + i' + x)).toNatClampNeg = 60 * k + i' + x := nI_clamp (by omega)
              have vx : vp_in (nI (60 * k + i' + x)) 240 := vp_in_nI (by omega) (by decide)
              obtain ⟨g1, g2⟩ := hg2 x (by omega)
              have hl := hL (4 * s + g x) (by omega)
              have hl2 := hL2 (4 * s + g x) (by omega)
              have es : (nI (4 * s + g x)).toNatClampNeg = 4 * s + g x := nI_clamp (by omega)
              have vs : vp_in (nI (4 * s + g x)) 64 := vp_in_nI (by omega) (by decide)
              rw [gnF] at he
              have fin : ¬ (x ≠ 0 ∧ bt1 (sg 48 39) (nI (4 * g (x - 1) + g x))) → (0 ≤ sg 75 (4 * s + g x) → ∀ v, AW G 10 n 0 0 mu ro sg 74 [.ref 48, .int (nI k), .int l, .int (nI i'), .int (nI w'), .int 0, .int (nI (60 * k + i')), .int (sg 75 (4 * s + g x)), .int (nI (x + 1)), v] []) ∧ (¬ 0 ≤ sg 75 (4 * s + g x) → K (some (.int (nI x))) (s2 sg 48 0 0)) := by
                intro hb
                rw [if_neg hb] at he
                by_cases h0 : L (4 * s + g x) = 0
                · rw [if_pos h0] at he hl
                  rw [hl]
                  rw [he] at hk9
                  exact ⟨fun z => absurd z (by decide), fun _ => hk9⟩
                · rw [if_neg h0] at he hl
                  rw [hl]
                  exact ⟨fun _ v => ih (x + 1) _ v (by omega) hl2 he, fun z => absurd (nI_pos' (by omega)) z⟩
              by_cases hx0 : x = 0
              · have hx1 : (nI x ≤ 0) = True := eq_true (by rw [hx0]; decide)
                obtain ⟨f1, f2⟩ := fin (fun z => z.1 hx0)
                refine hG (fun q => q == 74) 80 _ _ _ _ (Nat.le_of_ble_eq_true rfl) ?_
                simp only [D_X12_gone, N_X12_gone, ↓reduceIte, vcS, vcC, vcI, gtF, ptF, inS, inV, fv0, fv1, fv2, fv3, fw0, fw1, lg_0, lg_1, lg_2, lg_3, lg_4, lg_5, lg_6, lg_7, lg_8, lg_9, lg_10, lg_11, lg_12, lg_13, lg_14, lsq_0, lsl_0, lsq_1, lsl_1, lsq_2, lsl_2, lsq_3, lsl_3, lsq_4, lsl_4, lsq_5, lsl_5, lsq_6, lsl_6, lsq_7, lsl_7, lsq_8, lsl_8, lsq_9, lsl_9, lsq_10, lsl_10, lsq_11, lsl_11, lsq_12, lsl_12, lsq_13, lsl_13, lsq_14, lsl_14, tk_0, tk_1, tk_2, tk_3, tk_4, tk_5, tk_6, tk_7, tk_8, cs_n, cs_i, cs_l, cs_r, cs_u, nl, rt_s, rt_n, CST1, Nat.reduceAdd, Nat.reduceLeDiff, va_rf, rtOk, Bool.false_eq_true, Bool.true_eq_false, if_false, if_true, ite_true, ite_false, true_and, and_true, eq_self, ne_eq, not_false_eq_true, not_true_eq_false, false_implies, true_implies, and_self, reduceCtorEq, Nat.reduceBEq, Bool.or_false, Bool.false_or, Bool.or_true, Bool.true_or, if1_0, if1_1, if1_01, one_01, zer_01, lg_cmp_ge, lg_cmp_le, lg_cmp_gt, lg_cmp_lt, lg_cmp_eq, Classical.not_not, ↓im_F hq, ↓im_FN hq, hq, ↓im_T hx1, ↓im_TN hx1, hx1, SHm hS, SHr hS, nI_add, ml4, ex, vx, g1, es, vs, nI_1]
                refine ⟨fun q => f1 q _, fun q => ⟨by omega, m_refused hS ?_⟩⟩
                simp only [D_X12_gone, N_X12_gone, ↓reduceIte, vcS, vcC, vcI, gtF, ptF, inS, inV, fv0, fv1, fv2, fv3, fw0, fw1, lg_0, lg_1, lg_2, lg_3, lg_4, lg_5, lg_6, lg_7, lg_8, lg_9, lg_10, lg_11, lg_12, lg_13, lg_14, lsq_0, lsl_0, lsq_1, lsl_1, lsq_2, lsl_2, lsq_3, lsl_3, lsq_4, lsl_4, lsq_5, lsl_5, lsq_6, lsl_6, lsq_7, lsl_7, lsq_8, lsl_8, lsq_9, lsl_9, lsq_10, lsl_10, lsq_11, lsl_11, lsq_12, lsl_12, lsq_13, lsl_13, lsq_14, lsl_14, tk_0, tk_1, tk_2, tk_3, tk_4, tk_5, tk_6, tk_7, tk_8, cs_n, cs_i, cs_l, cs_r, cs_u, nl, rt_s, rt_n, CST1, Nat.reduceAdd, Nat.reduceLeDiff, va_rf, rtOk, Bool.false_eq_true, Bool.true_eq_false, if_false, if_true, ite_true, ite_false, true_and, and_true, eq_self, ne_eq, not_false_eq_true, not_true_eq_false, false_implies, true_implies, and_self, reduceCtorEq, Nat.reduceBEq, Bool.or_false, Bool.false_or, Bool.or_true, Bool.true_or, if1_0, if1_1, if1_01, one_01, zer_01, lg_cmp_ge, lg_cmp_le, lg_cmp_gt, lg_cmp_lt, lg_cmp_eq, Classical.not_not, SHm hS, SHr hS]
                exact f2 q
              · have hx1 : (nI x ≤ 0) = False := eq_false (nI_nle (by omega) (by omega))
                have hp : nI (60 * k + i' + x) - 1 = nI (60 * k + i' + (x - 1)) := by rw [show 60 * k + i' + x = 60 * k + i' + (x - 1) + 1 by omega, nI_pred]
                have ey : (nI (60 * k + i' + (x - 1))).toNatClampNeg = 60 * k + i' + (x - 1) := nI_clamp (by omega)
                have vy : vp_in (nI (60 * k + i' + (x - 1))) 240 := vp_in_nI (by omega) (by decide)
                obtain ⟨g3, g4⟩ := hg2 (x - 1) (by omega)
                refine hG (fun q => q == 74) 80 _ _ _ _ (Nat.le_of_ble_eq_true rfl) ?_
                simp only [D_X12_gone, N_X12_gone, ↓reduceIte, vcS, vcC, vcI, gtF, ptF, inS, inV, fv0, fv1, fv2, fv3, fw0, fw1, lg_0, lg_1, lg_2, lg_3, lg_4, lg_5, lg_6, lg_7, lg_8, lg_9, lg_10, lg_11, lg_12, lg_13, lg_14, lsq_0, lsl_0, lsq_1, lsl_1, lsq_2, lsl_2, lsq_3, lsl_3, lsq_4, lsl_4, lsq_5, lsl_5, lsq_6, lsl_6, lsq_7, lsl_7, lsq_8, lsl_8, lsq_9, lsl_9, lsq_10, lsl_10, lsq_11, lsl_11, lsq_12, lsl_12, lsq_13, lsl_13, lsq_14, lsl_14, tk_0, tk_1, tk_2, tk_3, tk_4, tk_5, tk_6, tk_7, tk_8, cs_n, cs_i, cs_l, cs_r, cs_u, nl, rt_s, rt_n, CST1, Nat.reduceAdd, Nat.reduceLeDiff, va_rf, rtOk, Bool.false_eq_true, Bool.true_eq_false, if_false, if_true, ite_true, ite_false, true_and, and_true, eq_self, ne_eq, not_false_eq_true, not_true_eq_false, false_implies, true_implies, and_self, reduceCtorEq, Nat.reduceBEq, Bool.or_false, Bool.false_or, Bool.or_true, Bool.true_or, if1_0, if1_1, if1_01, one_01, zer_01, lg_cmp_ge, lg_cmp_le, lg_cmp_gt, lg_cmp_lt, lg_cmp_eq, Classical.not_not, ↓im_F hq, ↓im_FN hq, hq, ↓im_F hx1, ↓im_FN hx1, hx1, SHm hS, SHr hS, nI_add, ml4, ex, vx, g1, hp, ey, vy, g3]
                refine ⟨by omega, m_isBarN hS (by omega) ?_⟩
                simp only [D_X12_gone, N_X12_gone, ↓reduceIte, vcS, vcC, vcI, gtF, ptF, inS, inV, fv0, fv1, fv2, fv3, fw0, fw1, lg_0, lg_1, lg_2, lg_3, lg_4, lg_5, lg_6, lg_7, lg_8, lg_9, lg_10, lg_11, lg_12, lg_13, lg_14, lsq_0, lsl_0, lsq_1, lsl_1, lsq_2, lsl_2, lsq_3, lsl_3, lsq_4, lsl_4, lsq_5, lsl_5, lsq_6, lsl_6, lsq_7, lsl_7, lsq_8, lsl_8, lsq_9, lsl_9, lsq_10, lsl_10, lsq_11, lsl_11, lsq_12, lsl_12, lsq_13, lsl_13, lsq_14, lsl_14, tk_0, tk_1, tk_2, tk_3, tk_4, tk_5, tk_6, tk_7, tk_8, cs_n, cs_i, cs_l, cs_r, cs_u, nl, rt_s, rt_n, CST1, Nat.reduceAdd, Nat.reduceLeDiff, va_rf, rtOk, Bool.false_eq_true, Bool.true_eq_false, if_false, if_true, ite_true, ite_false, true_and, and_true, eq_self, ne_eq, not_false_eq_true, not_true_eq_false, false_implies, true_implies, and_self, reduceCtorEq, Nat.reduceBEq, Bool.or_false, Bool.false_or, Bool.or_true, Bool.true_or, if1_0, if1_1, if1_01, one_01, zer_01, lg_cmp_ge, lg_cmp_le, lg_cmp_gt, lg_cmp_lt, lg_cmp_eq, Classical.not_not, SHm hS, SHr hS, nI_add, ml4, ex, vx, g1, es, vs, nI_1, z10, z90]
                refine ⟨fun q => ?_, fun q => ⟨by omega, m_refused hS ?_⟩⟩
                · obtain ⟨f1, f2⟩ := fin (fun z => q z.2)
                  refine ⟨fun q => f1 q _, fun q => ⟨by omega, m_refused hS ?_⟩⟩
                  simp only [D_X12_gone, N_X12_gone, ↓reduceIte, vcS, vcC, vcI, gtF, ptF, inS, inV, fv0, fv1, fv2, fv3, fw0, fw1, lg_0, lg_1, lg_2, lg_3, lg_4, lg_5, lg_6, lg_7, lg_8, lg_9, lg_10, lg_11, lg_12, lg_13, lg_14, lsq_0, lsl_0, lsq_1, lsl_1, lsq_2, lsl_2, lsq_3, lsl_3, lsq_4, lsl_4, lsq_5, lsl_5, lsq_6, lsl_6, lsq_7, lsl_7, lsq_8, lsl_8, lsq_9, lsl_9, lsq_10, lsl_10, lsq_11, lsl_11, lsq_12, lsl_12, lsq_13, lsl_13, lsq_14, lsl_14, tk_0, tk_1, tk_2, tk_3, tk_4, tk_5, tk_6, tk_7, tk_8, cs_n, cs_i, cs_l, cs_r, cs_u, nl, rt_s, rt_n, CST1, Nat.reduceAdd, Nat.reduceLeDiff, va_rf, rtOk, Bool.false_eq_true, Bool.true_eq_false, if_false, if_true, ite_true, ite_false, true_and, and_true, eq_self, ne_eq, not_false_eq_true, not_true_eq_false, false_implies, true_implies, and_self, reduceCtorEq, Nat.reduceBEq, Bool.or_false, Bool.false_or, Bool.or_true, Bool.true_or, if1_0, if1_1, if1_01, one_01, zer_01, lg_cmp_ge, lg_cmp_le, lg_cmp_gt, lg_cmp_lt, lg_cmp_eq, Classical.not_not, SHm hS, SHr hS]
                  exact f2 q
                · simp only [D_X12_gone, N_X12_gone, ↓reduceIte, vcS, vcC, vcI, gtF, ptF, inS, inV, fv0, fv1, fv2, fv3, fw0, fw1, lg_0, lg_1, lg_2, lg_3, lg_4, lg_5, lg_6, lg_7, lg_8, lg_9, lg_10, lg_11, lg_12, lg_13, lg_14, lsq_0, lsl_0, lsq_1, lsl_1, lsq_2, lsl_2, lsq_3, lsl_3, lsq_4, lsl_4, lsq_5, lsl_5, lsq_6, lsl_6, lsq_7, lsl_7, lsq_8, lsl_8, lsq_9, lsl_9, lsq_10, lsl_10, lsq_11, lsl_11, lsq_12, lsl_12, lsq_13, lsl_13, lsq_14, lsl_14, tk_0, tk_1, tk_2, tk_3, tk_4, tk_5, tk_6, tk_7, tk_8, cs_n, cs_i, cs_l, cs_r, cs_u, nl, rt_s, rt_n, CST1, Nat.reduceAdd, Nat.reduceLeDiff, va_rf, rtOk, Bool.false_eq_true, Bool.true_eq_false, if_false, if_true, ite_true, ite_false, true_and, and_true, eq_self, ne_eq, not_false_eq_true, not_true_eq_false, false_implies, true_implies, and_self, reduceCtorEq, Nat.reduceBEq, Bool.or_false, Bool.false_or, Bool.or_true, Bool.true_or, if1_0, if1_1, if1_01, one_01, zer_01, lg_cmp_ge, lg_cmp_le, lg_cmp_gt, lg_cmp_lt, lg_cmp_eq, Classical.not_not, SHm hS, SHr hS]
                  rw [if_pos ⟨hx0, q⟩] at he
                  rw [he] at hk9
                  exact hk9
          exact loop w' 0 0 _ (by omega) (by omega) rfl
        · simp only [D_X12_gone, N_X12_gone, ↓reduceIte, vcS, vcC, vcI, gtF, ptF, inS, inV, fv0, fv1, fv2, fv3, fw0, fw1, lg_0, lg_1, lg_2, lg_3, lg_4, lg_5, lg_6, lg_7, lg_8, lg_9, lg_10, lg_11, lg_12, lg_13, lg_14, lsq_0, lsl_0, lsq_1, lsl_1, lsq_2, lsl_2, lsq_3, lsl_3, lsq_4, lsl_4, lsq_5, lsl_5, lsq_6, lsl_6, lsq_7, lsl_7, lsq_8, lsl_8, lsq_9, lsl_9, lsq_10, lsl_10, lsq_11, lsl_11, lsq_12, lsl_12, lsq_13, lsl_13, lsq_14, lsl_14, tk_0, tk_1, tk_2, tk_3, tk_4, tk_5, tk_6, tk_7, tk_8, cs_n, cs_i, cs_l, cs_r, cs_u, nl, rt_s, rt_n, CST1, Nat.reduceAdd, Nat.reduceLeDiff, va_rf, rtOk, Bool.false_eq_true, Bool.true_eq_false, if_false, if_true, ite_true, ite_false, true_and, and_true, eq_self, ne_eq, not_false_eq_true, not_true_eq_false, false_implies, true_implies, and_self, reduceCtorEq, Nat.reduceBEq, Bool.or_false, Bool.false_or, Bool.or_true, Bool.true_or, if1_0, if1_1, if1_01, one_01, zer_01, lg_cmp_ge, lg_cmp_le, lg_cmp_gt, lg_cmp_lt, lg_cmp_eq, Classical.not_not, SHm hS, SHr hS]
          rw [if_neg (fun z => q2 z.2)] at hk9
          exact hk9
  · refine ⟨by omega, m_noSheetX (by omega) hok ?_⟩
    simp only [D_X12_gone, N_X12_gone, ↓reduceIte, vcS, vcC, vcI, gtF, ptF, inS, inV, fv0, fv1, fv2, fv3, fw0, fw1, lg_0, lg_1, lg_2, lg_3, lg_4, lg_5, lg_6, lg_7, lg_8, lg_9, lg_10, lg_11, lg_12, lg_13, lg_14, lsq_0, lsl_0, lsq_1, lsl_1, lsq_2, lsl_2, lsq_3, lsl_3, lsq_4, lsl_4, lsq_5, lsl_5, lsq_6, lsl_6, lsq_7, lsl_7, lsq_8, lsl_8, lsq_9, lsl_9, lsq_10, lsl_10, lsq_11, lsl_11, lsq_12, lsl_12, lsq_13, lsl_13, lsq_14, lsl_14, tk_0, tk_1, tk_2, tk_3, tk_4, tk_5, tk_6, tk_7, tk_8, cs_n, cs_i, cs_l, cs_r, cs_u, nl, rt_s, rt_n, CST1, Nat.reduceAdd, Nat.reduceLeDiff, va_rf, rtOk, Bool.false_eq_true, Bool.true_eq_false, if_false, if_true, ite_true, ite_false, true_and, and_true, eq_self, ne_eq, not_false_eq_true, not_true_eq_false, false_implies, true_implies, and_self, reduceCtorEq, Nat.reduceBEq, Bool.or_false, Bool.false_or, Bool.or_true, Bool.true_or, if1_0, if1_1, if1_01, one_01, zer_01, lg_cmp_ge, lg_cmp_le, lg_cmp_gt, lg_cmp_lt, lg_cmp_eq, Classical.not_not, SHm hS, SHr hS, z10]
    refine ⟨by omega, m_refused hS ?_⟩
    simp only [D_X12_gone, N_X12_gone, ↓reduceIte, vcS, vcC, vcI, gtF, ptF, inS, inV, fv0, fv1, fv2, fv3, fw0, fw1, lg_0, lg_1, lg_2, lg_3, lg_4, lg_5, lg_6, lg_7, lg_8, lg_9, lg_10, lg_11, lg_12, lg_13, lg_14, lsq_0, lsl_0, lsq_1, lsl_1, lsq_2, lsl_2, lsq_3, lsl_3, lsq_4, lsl_4, lsq_5, lsl_5, lsq_6, lsl_6, lsq_7, lsl_7, lsq_8, lsl_8, lsq_9, lsl_9, lsq_10, lsl_10, lsq_11, lsl_11, lsq_12, lsl_12, lsq_13, lsl_13, lsq_14, lsl_14, tk_0, tk_1, tk_2, tk_3, tk_4, tk_5, tk_6, tk_7, tk_8, cs_n, cs_i, cs_l, cs_r, cs_u, nl, rt_s, rt_n, CST1, Nat.reduceAdd, Nat.reduceLeDiff, va_rf, rtOk, Bool.false_eq_true, Bool.true_eq_false, if_false, if_true, ite_true, ite_false, true_and, and_true, eq_self, ne_eq, not_false_eq_true, not_true_eq_false, false_implies, true_implies, and_self, reduceCtorEq, Nat.reduceBEq, Bool.or_false, Bool.false_or, Bool.or_true, Bool.true_or, if1_0, if1_1, if1_01, one_01, zer_01, lg_cmp_ge, lg_cmp_le, lg_cmp_gt, lg_cmp_lt, lg_cmp_eq, Classical.not_not, SHm hS, SHr hS]
    exact hk1 (-1) 0 (tkV_X hok)
theorem Fr_f2 {s : aS} {x : Int32} : Fr [13] s (s2 (s2 s 0 14 x) 48 0 x) := by ((repeat (refine Fr.putq (m := 13) ?_ rfl (by decide))); exact Fr.rfl)
theorem Tre.lt {L cb : Nat → Nat} (h : Tre L cb N) : ∀ y, y < 64 → L y < 16 := by
  intro y hy
  have := h.n16
  by_cases h0 : L y = 0
  · omega
  · have := (h.up y hy h0).2.1; omega
set_option maxHeartbeats 4000000 in
set_option maxRecDepth 100000 in
theorem b_gone {x l i w : Int32} (hS : Sh mu ro) (hd : 6 ≤ d) (hI : I_sh sg) (hT : I_tp sg N) (hk : ∀ r sg2, I_sh sg2 → Fr [13] sg sg2 → K r sg2) : aCall d 122 [.ref 0, .int x, .int l, .int i, .int w] n mu ro sg (fun r1 sg1 => aCall d 218 [.ref 48, .int x, .int l, .int i, .int w] n mu ro sg1 (fun r2 sg2 => r1 = r2 ∧ K r1 sg2)) := by
  have hf : ∀ v r, K r (s2 (s2 sg 0 14 v) 48 0 v) := fun v r => hk _ _ (hI.ft ft2.1 ft2.2) Fr_f2
  obtain ⟨L, cb, t1, t2, t3⟩ := tp_of hT
  have hb := hT.2.2.2.1
  have e85 : ∀ f j, s2 sg 0 14 f 85 j = sg 85 j := fun f j => s2_n (by omega)
  have e86 : ∀ f j, s2 sg 0 14 f 86 j = sg 86 j := fun f j => s2_n (by omega)
  have hz : ∀ f k, k < 4 → (s2 sg 0 14 f 85 k).toInt ≤ 60 := fun f k hk4 => by rw [e85]; exact (sh_say hI hk4).1
  refine c_gone hS hd hI t1 t2 hb (fun r f h1 => ?_) (fun k i' w' h1 h2 h3 h4 h5 => ?_)
  · refine m_gone (L := L) hS (by omega) (hz f) (fun y hy => t3.2 y hy) t1.lt (fun r2 f2 h2 => ?_) (fun k i' w' h2 => ?_)
    · rw [tkV_fr (e85 f) (e86 f), h1] at h2
      obtain ⟨rfl, rfl⟩ := Prod.mk.inj (Option.some.inj h2)
      exact ⟨rfl, hf _ _⟩
    · rw [tkV_fr (e85 f) (e86 f), h1] at h2
      exact absurd h2 (by simp)
  · refine m_gone (L := L) hS (by omega) (hz 0) (fun y hy => t3.2 y hy) t1.lt (fun r2 f2 h6 => ?_) (fun k2 i2 w2 h6 h7 h8 h9 h10 h11 => ?_)
    · rw [tkV_fr (e85 0) (e86 0), h1] at h6
      exact absurd h6 (by simp)
    · obtain ⟨q1, q2, q3⟩ := h5
      have z1 : k = k2 := (nI_eq (by omega) (by omega)).mp (h2.symm.trans h7)
      have z2 : i' = i2 := (nI_eq (by omega) (by omega)).mp (h3.symm.trans h8)
      have z3 : w' = w2 := (nI_eq (by omega) (by omega)).mp (h4.symm.trans h9)
      subst z1 z2 z3
      exact ⟨rfl, hf _ _⟩
end H34
