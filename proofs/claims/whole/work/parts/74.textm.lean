/-! part 74: chains: the text, as the reference reads it -/
section H74
variable {d n N T Q F : Nat} {mu : aM} {ro : aR} {sg σ : aS} {K : Option Value → aS → Prop} {v : Nat → Int32}
def rdM (o : Option Nat) : Int32 := match o with
  | none => -1
  | some x => nI x
def M_rd (s : aS) (z : Nat) (sp : Int32) (lk : Nat → Int32) : Prop := s 48 26 = nI z ∧ s 48 28 = sp ∧ ∀ c, c < z → s 69 c = lk c
set_option maxHeartbeats 4000000 in
set_option maxRecDepth 100000 in
theorem m_readChain {fm w : Nat} {lk0 : Nat → Int32} (hS : Sh mu ro) (hd : 2 ≤ d) (hfw : fm + w ≤ 240) (hw6 : w ≤ 60) (h18 : sg 48 18 = nI Q) (hQ : Q ≤ 8) (hv : ∀ j, j < w → sg 87 (fm + j) = v j) (hk : ∀ σ, (∀ a k, a ≠ 69 → ¬ (a = 48 ∧ (k = 26 ∨ k = 28)) → σ a k = sg a k) → M_rd σ (rdF v Q w w 0 0 0 0 lk0).2.1 (rdF v Q w w 0 0 0 0 lk0).2.2.1 (rdF v Q w w 0 0 0 0 lk0).2.2.2 → K (some (.int (rdM (rdF v Q w w 0 0 0 0 lk0).1))) σ) : aCall d 196 [.ref 48, .int (nI fm), .int (nI w)] n mu ro sg K := by
  refine aCall_start (mL := 7) (cc := cX12_readChain) (o := 12) (ret := (some .int)) 4 (by decide) (by decide +kernel) rfl rfl rfl rfl (Nat.le_of_ble_eq_true rfl) (fun G hC hG => ?_)
  simp only [exL, List.cons_append, List.nil_append, rp_0, rp_1, rp_2, rp_3, rp_4, rp_5, rp_6, rp_7, rp_8, rp_9, rp_10, rp_11, List.append_nil]
  have lo : ∀ (m x s z : Nat) (sp : Int32) (lk : Nat → Int32) (σ : aS) (v5 v6 : Value), x + m = w → s ≤ 5 → (s = 0 → z < 5) → z ≤ 5 → (∀ a k, a ≠ 69 → ¬ (a = 48 ∧ (k = 26 ∨ k = 28)) → σ a k = sg a k) → M_rd σ z sp lk → rdF v Q w w 0 0 0 0 lk0 = rdF v Q w m x s z sp lk → AW G 7 n 0 0 mu ro σ 15 [.ref 48, .int (nI fm), .int (nI w), .int (nI s), .int (nI x), v5, v6] [] := by
    intro m
    induction m with
    | zero =>
      intro x s z sp lk σ v5 v6 hx hs hz hz5 hF hC he
      have hq : (nI w ≤ nI x) = True := eq_true (nI_le (by omega) (by omega))
      have ts : (nI s).toInt = s := nI_toInt (by omega)
      have cs2 : (nI s ≤ 2) = ¬ (2 < s) := propext ⟨fun z => by ((try simp only [i_le, i_lt, i_eq, l_le, l_lt, l_eq, i_ne, l_ne, toL, l_add, l_sub1, LIT1, LIT2, Int.reduceNeg, ge_iff_le, gt_iff_lt] at *); omega), fun z => by ((try simp only [i_le, i_lt, i_eq, l_le, l_lt, l_eq, i_ne, l_ne, toL, l_add, l_sub1, LIT1, LIT2, Int.reduceNeg, ge_iff_le, gt_iff_lt] at *); omega)⟩
      have hk3 := hk σ hF
      rw [he, rdF] at hk3
      have hk4 := hk3 hC
      refine hG (fun q => q == 15) 80 _ _ _ _ (Nat.le_of_ble_eq_true rfl) ?_
      simp only [D_X12_readChain, N_X12_readChain, ↓reduceIte, vcS, vcC, vcI, gtF, ptF, inS, inV, fv0, fv1, fv2, fv3, fw0, fw1, lg_0, lg_1, lg_2, lg_3, lg_4, lg_5, lg_6, lg_7, lg_8, lg_9, lg_10, lg_11, lg_12, lg_13, lg_14, lsq_0, lsl_0, lsq_1, lsl_1, lsq_2, lsl_2, lsq_3, lsl_3, lsq_4, lsl_4, lsq_5, lsl_5, lsq_6, lsl_6, lsq_7, lsl_7, lsq_8, lsl_8, lsq_9, lsl_9, lsq_10, lsl_10, lsq_11, lsl_11, lsq_12, lsl_12, lsq_13, lsl_13, lsq_14, lsl_14, tk_0, tk_1, tk_2, tk_3, tk_4, tk_5, tk_6, tk_7, tk_8, cs_n, cs_i, cs_l, cs_r, cs_u, nl, rt_s, rt_n, CST1, Nat.reduceAdd, Nat.reduceLeDiff, va_rf, rtOk, Bool.false_eq_true, Bool.true_eq_false, if_false, if_true, ite_true, ite_false, true_and, and_true, eq_self, ne_eq, not_false_eq_true, not_true_eq_false, false_implies, true_implies, and_self, reduceCtorEq, Nat.reduceBEq, Bool.or_false, Bool.false_or, Bool.or_true, Bool.true_or, if1_0, if1_1, if1_01, one_01, zer_01, lg_cmp_ge, lg_cmp_le, lg_cmp_gt, lg_cmp_lt, lg_cmp_eq, Classical.not_not, ↓im_T hq, ↓im_TN hq, hq, cs2]
      refine ⟨fun g => ?_, fun g => ?_⟩
      · simp only [if_neg g] at hk4; exact hk4
      · simp only [if_pos g] at hk4; exact hk4
    | succ m ih =>
      intro x s z sp lk σ v5 v6 hx hs hz hz5 hF hC he
      have hq : (nI w ≤ nI x) = False := eq_false (nI_ge (by omega) (by omega))
      have ex : (nI (fm + x)).toNatClampNeg = fm + x := nI_clamp (by omega)
      have vx : vp_in (nI (fm + x)) 240 := vp_in_nI (by omega) (by decide)
      have ec : σ 87 (fm + x) = v x := by rw [hF _ _ (by omega) (by omega)]; exact hv x (by omega)
      have r18 : σ 48 18 = nI Q := by rw [hF _ _ (by omega) (by omega)]; exact h18
      have tz : (nI z).toInt = z := nI_toInt (by omega)
      have ts : (nI s).toInt = s := nI_toInt (by omega)
      obtain ⟨d1, d2, d3⟩ := id hC
      rw [rdF] at he
      have bad : rdF v Q w w 0 0 0 0 lk0 = (some x, z, sp, lk) → K (some (.int (nI x))) σ := by
        intro y
        have hk3 := hk σ hF
        rw [y] at hk3
        exact hk3 hC
      refine hG (fun q => q == 15) 80 _ _ _ _ (Nat.le_of_ble_eq_true rfl) ?_
      simp only [D_X12_readChain, N_X12_readChain, ↓reduceIte, vcS, vcC, vcI, gtF, ptF, inS, inV, fv0, fv1, fv2, fv3, fw0, fw1, lg_0, lg_1, lg_2, lg_3, lg_4, lg_5, lg_6, lg_7, lg_8, lg_9, lg_10, lg_11, lg_12, lg_13, lg_14, lsq_0, lsl_0, lsq_1, lsl_1, lsq_2, lsl_2, lsq_3, lsl_3, lsq_4, lsl_4, lsq_5, lsl_5, lsq_6, lsl_6, lsq_7, lsl_7, lsq_8, lsl_8, lsq_9, lsl_9, lsq_10, lsl_10, lsq_11, lsl_11, lsq_12, lsl_12, lsq_13, lsl_13, lsq_14, lsl_14, tk_0, tk_1, tk_2, tk_3, tk_4, tk_5, tk_6, tk_7, tk_8, cs_n, cs_i, cs_l, cs_r, cs_u, nl, rt_s, rt_n, CST1, Nat.reduceAdd, Nat.reduceLeDiff, va_rf, rtOk, Bool.false_eq_true, Bool.true_eq_false, if_false, if_true, ite_true, ite_false, true_and, and_true, eq_self, ne_eq, not_false_eq_true, not_true_eq_false, false_implies, true_implies, and_self, reduceCtorEq, Nat.reduceBEq, Bool.or_false, Bool.false_or, Bool.or_true, Bool.true_or, if1_0, if1_1, if1_01, one_01, zer_01, lg_cmp_ge, lg_cmp_le, lg_cmp_gt, lg_cmp_lt, lg_cmp_eq, Classical.not_not, ↓im_F hq, ↓im_FN hq, hq, SHm hS, SHr hS, nI_add, ex, vx, ec]
      refine ⟨by omega, m_in ?_⟩
      by_cases s0 : s = 0
      · subst s0
        have z5 := hz rfl
        have a0 : (nI 0 = (0 : Int32)) = True := eq_true rfl
        have a1 : (nI 0 = (1 : Int32)) = False := eq_false (by decide)
        have a2 : (nI 0 < (2 : Int32)) = True := eq_true (by decide)
        have b0 : ¬ lkO Q (v x) → rdF v Q w w 0 0 0 0 lk0 = (some x, z, sp, lk) := by
          intro y
          rw [if_neg (fun u => y u.2), if_neg (by omega), if_neg (by omega), if_neg (by omega)] at he
          exact he
        by_cases dg : dgO (v x)
        · have g' := eq_true dg
          have tv : (v x - 48).toInt = (v x).toInt - 48 := by
            rw [i_sub (by rw [show (48 : Int32).toInt = 48 by decide]; omega) (by rw [show (48 : Int32).toInt = 48 by decide]; omega), show (48 : Int32).toInt = 48 by decide]
          simp only [D_X12_readChain, N_X12_readChain, ↓reduceIte, vcS, vcC, vcI, gtF, ptF, inS, inV, fv0, fv1, fv2, fv3, fw0, fw1, lg_0, lg_1, lg_2, lg_3, lg_4, lg_5, lg_6, lg_7, lg_8, lg_9, lg_10, lg_11, lg_12, lg_13, lg_14, lsq_0, lsl_0, lsq_1, lsl_1, lsq_2, lsl_2, lsq_3, lsl_3, lsq_4, lsl_4, lsq_5, lsl_5, lsq_6, lsl_6, lsq_7, lsl_7, lsq_8, lsl_8, lsq_9, lsl_9, lsq_10, lsl_10, lsq_11, lsl_11, lsq_12, lsl_12, lsq_13, lsl_13, lsq_14, lsl_14, tk_0, tk_1, tk_2, tk_3, tk_4, tk_5, tk_6, tk_7, tk_8, cs_n, cs_i, cs_l, cs_r, cs_u, nl, rt_s, rt_n, CST1, Nat.reduceAdd, Nat.reduceLeDiff, va_rf, rtOk, Bool.false_eq_true, Bool.true_eq_false, if_false, if_true, ite_true, ite_false, true_and, and_true, eq_self, ne_eq, not_false_eq_true, not_true_eq_false, false_implies, true_implies, and_self, reduceCtorEq, Nat.reduceBEq, Bool.or_false, Bool.false_or, Bool.or_true, Bool.true_or, if1_0, if1_1, if1_01, one_01, zer_01, lg_cmp_ge, lg_cmp_le, lg_cmp_gt, lg_cmp_lt, lg_cmp_eq, Classical.not_not, SHm hS, SHr hS, LIT2, toL, g', a0, z10]
          refine ⟨by omega, m_noRow (Q := Q) hS (by omega) r18 hQ ?_⟩
          by_cases lo9 : lkO Q (v x)
          · have hn : (0 ≤ (v x - 48).toInt ∧ (v x - 48).toInt ≤ (Q : Int) - 1) = True := eq_true (by rw [tv]; omega)
            have ez : (nI z).toNatClampNeg = z := nI_clamp (by omega)
            have vz : vp_in (nI z) 5 := vp_in_nI z5 (by decide)
            have r1 : s2 σ 69 z (v x - 48) 48 26 = nI z := by rw [s2_n (by omega)]; exact d1
            simp only [D_X12_readChain, N_X12_readChain, ↓reduceIte, vcS, vcC, vcI, gtF, ptF, inS, inV, fv0, fv1, fv2, fv3, fw0, fw1, lg_0, lg_1, lg_2, lg_3, lg_4, lg_5, lg_6, lg_7, lg_8, lg_9, lg_10, lg_11, lg_12, lg_13, lg_14, lsq_0, lsl_0, lsq_1, lsl_1, lsq_2, lsl_2, lsq_3, lsl_3, lsq_4, lsl_4, lsq_5, lsl_5, lsq_6, lsl_6, lsq_7, lsl_7, lsq_8, lsl_8, lsq_9, lsl_9, lsq_10, lsl_10, lsq_11, lsl_11, lsq_12, lsl_12, lsq_13, lsl_13, lsq_14, lsl_14, tk_0, tk_1, tk_2, tk_3, tk_4, tk_5, tk_6, tk_7, tk_8, cs_n, cs_i, cs_l, cs_r, cs_u, nl, rt_s, rt_n, CST1, Nat.reduceAdd, Nat.reduceLeDiff, va_rf, rtOk, Bool.false_eq_true, Bool.true_eq_false, if_false, if_true, ite_true, ite_false, true_and, and_true, eq_self, ne_eq, not_false_eq_true, not_true_eq_false, false_implies, true_implies, and_self, reduceCtorEq, Nat.reduceBEq, Bool.or_false, Bool.false_or, Bool.or_true, Bool.true_or, if1_0, if1_1, if1_01, one_01, zer_01, lg_cmp_ge, lg_cmp_le, lg_cmp_gt, lg_cmp_lt, lg_cmp_eq, Classical.not_not, SHm hS, SHr hS, hn, d1, ez, vz, r1, nI_1]
            rw [if_pos ⟨rfl, lo9⟩] at he
            have := ih (x + 1) 1 (z + 1) sp (upd lk z (v x - 48)) (s2 (s2 σ 69 z (v x - 48)) 48 26 (nI (z + 1))) (.int (v x)) (.int 1) (by omega) (by omega) (by omega) (by omega) (fun a k h h' => by rw [s2_n (by omega), s2_n (by omega)]; exact hF a k h h') ⟨s2_y ⟨rfl, rfl⟩, by rw [s2_n (by omega), s2_n (by omega)]; exact d2, fun c hc => ?_⟩ he
            · exact this
            · by_cases e : c = z
              · rw [e, pk_us, s2_n (by omega), s2_y ⟨rfl, rfl⟩]
              · rw [pk_un e, s2_n (by omega), s2_n (by omega)]
                exact d3 c (by omega)
          · have hn : (0 ≤ (v x - 48).toInt ∧ (v x - 48).toInt ≤ (Q : Int) - 1) = False := eq_false (fun u => lo9 (by rw [tv] at u; exact ⟨by omega, by omega⟩))
            simp only [D_X12_readChain, N_X12_readChain, ↓reduceIte, vcS, vcC, vcI, gtF, ptF, inS, inV, fv0, fv1, fv2, fv3, fw0, fw1, lg_0, lg_1, lg_2, lg_3, lg_4, lg_5, lg_6, lg_7, lg_8, lg_9, lg_10, lg_11, lg_12, lg_13, lg_14, lsq_0, lsl_0, lsq_1, lsl_1, lsq_2, lsl_2, lsq_3, lsl_3, lsq_4, lsl_4, lsq_5, lsl_5, lsq_6, lsl_6, lsq_7, lsl_7, lsq_8, lsl_8, lsq_9, lsl_9, lsq_10, lsl_10, lsq_11, lsl_11, lsq_12, lsl_12, lsq_13, lsl_13, lsq_14, lsl_14, tk_0, tk_1, tk_2, tk_3, tk_4, tk_5, tk_6, tk_7, tk_8, cs_n, cs_i, cs_l, cs_r, cs_u, nl, rt_s, rt_n, CST1, Nat.reduceAdd, Nat.reduceLeDiff, va_rf, rtOk, Bool.false_eq_true, Bool.true_eq_false, if_false, if_true, ite_true, ite_false, true_and, and_true, eq_self, ne_eq, not_false_eq_true, not_true_eq_false, false_implies, true_implies, and_self, reduceCtorEq, Nat.reduceBEq, Bool.or_false, Bool.false_or, Bool.or_true, Bool.true_or, if1_0, if1_1, if1_01, one_01, zer_01, lg_cmp_ge, lg_cmp_le, lg_cmp_gt, lg_cmp_lt, lg_cmp_eq, Classical.not_not, SHm hS, SHr hS, hn, a1, a2, z10]
            exact bad (b0 lo9)
        · have g' := eq_false dg
          simp only [D_X12_readChain, N_X12_readChain, ↓reduceIte, vcS, vcC, vcI, gtF, ptF, inS, inV, fv0, fv1, fv2, fv3, fw0, fw1, lg_0, lg_1, lg_2, lg_3, lg_4, lg_5, lg_6, lg_7, lg_8, lg_9, lg_10, lg_11, lg_12, lg_13, lg_14, lsq_0, lsl_0, lsq_1, lsl_1, lsq_2, lsl_2, lsq_3, lsl_3, lsq_4, lsl_4, lsq_5, lsl_5, lsq_6, lsl_6, lsq_7, lsl_7, lsq_8, lsl_8, lsq_9, lsl_9, lsq_10, lsl_10, lsq_11, lsl_11, lsq_12, lsl_12, lsq_13, lsl_13, lsq_14, lsl_14, tk_0, tk_1, tk_2, tk_3, tk_4, tk_5, tk_6, tk_7, tk_8, cs_n, cs_i, cs_l, cs_r, cs_u, nl, rt_s, rt_n, CST1, Nat.reduceAdd, Nat.reduceLeDiff, va_rf, rtOk, Bool.false_eq_true, Bool.true_eq_false, if_false, if_true, ite_true, ite_false, true_and, and_true, eq_self, ne_eq, not_false_eq_true, not_true_eq_false, false_implies, true_implies, and_self, reduceCtorEq, Nat.reduceBEq, Bool.or_false, Bool.false_or, Bool.or_true, Bool.true_or, if1_0, if1_1, if1_01, one_01, zer_01, lg_cmp_ge, lg_cmp_le, lg_cmp_gt, lg_cmp_lt, lg_cmp_eq, Classical.not_not, SHm hS, SHr hS, LIT2, toL, g', a0, a1, a2]
          exact bad (b0 (fun u => dg ⟨u.1, by omega⟩))
      · rw [if_neg (fun u => s0 u.1)] at he
        have a0 : (nI s = (0 : Int32)) = False := eq_false (nI_ne0 (by omega) (by omega))
        by_cases s1 : s = 1
        · subst s1
          have a1 : (nI 1 = (1 : Int32)) = True := eq_true rfl
          have a2 : (nI 1 < (2 : Int32)) = True := eq_true (by decide)
          have cz : (5 ≤ nI z) = ¬ (z < 5) := propext ⟨fun z => by ((try simp only [i_le, i_lt, i_eq, l_le, l_lt, l_eq, i_ne, l_ne, toL, l_add, l_sub1, LIT1, LIT2, Int.reduceNeg, ge_iff_le, gt_iff_lt] at *); omega), fun z => by ((try simp only [i_le, i_lt, i_eq, l_le, l_lt, l_eq, i_ne, l_ne, toL, l_add, l_sub1, LIT1, LIT2, Int.reduceNeg, ge_iff_le, gt_iff_lt] at *); omega)⟩
          have no : ¬ (v x = 44 ∧ z < 5) → ¬ v x = 64 → K (some (.int (nI x))) σ := by
            intro y1 y2
            rw [if_neg (fun u => y1 u.2), if_neg (fun u => y2 u.2), if_neg (by omega)] at he
            exact bad he
          by_cases y1 : v x = 44
          · have b1 := eq_true y1
            have y64 : ¬ v x = 64 := fun u => absurd (y1.symm.trans u) (by decide)
            have b2 := eq_false y64
            simp only [D_X12_readChain, N_X12_readChain, ↓reduceIte, vcS, vcC, vcI, gtF, ptF, inS, inV, fv0, fv1, fv2, fv3, fw0, fw1, lg_0, lg_1, lg_2, lg_3, lg_4, lg_5, lg_6, lg_7, lg_8, lg_9, lg_10, lg_11, lg_12, lg_13, lg_14, lsq_0, lsl_0, lsq_1, lsl_1, lsq_2, lsl_2, lsq_3, lsl_3, lsq_4, lsl_4, lsq_5, lsl_5, lsq_6, lsl_6, lsq_7, lsl_7, lsq_8, lsl_8, lsq_9, lsl_9, lsq_10, lsl_10, lsq_11, lsl_11, lsq_12, lsl_12, lsq_13, lsl_13, lsq_14, lsl_14, tk_0, tk_1, tk_2, tk_3, tk_4, tk_5, tk_6, tk_7, tk_8, cs_n, cs_i, cs_l, cs_r, cs_u, nl, rt_s, rt_n, CST1, Nat.reduceAdd, Nat.reduceLeDiff, va_rf, rtOk, Bool.false_eq_true, Bool.true_eq_false, if_false, if_true, ite_true, ite_false, true_and, and_true, eq_self, ne_eq, not_false_eq_true, not_true_eq_false, false_implies, true_implies, and_self, reduceCtorEq, Nat.reduceBEq, Bool.or_false, Bool.false_or, Bool.or_true, Bool.true_or, if1_0, if1_1, if1_01, one_01, zer_01, lg_cmp_ge, lg_cmp_le, lg_cmp_gt, lg_cmp_lt, lg_cmp_eq, Classical.not_not, SHm hS, SHr hS, a0, a1, a2, b1, b2, d1, cz, nI_1]
            refine ⟨fun g => no (fun u => g u.2) y64, fun g => ?_⟩
            rw [if_pos ⟨rfl, y1, g⟩] at he
            have := ih (x + 1) 0 z sp lk σ (.int (v x)) (.int (if 48 ≤ (v x).toInt64.toInt ∧ (v x).toInt64.toInt ≤ 57 then 1 else 0)) (by omega) (by omega) (fun _ => g) hz5 hF hC he
            exact ih (x + 1) 0 z sp lk σ _ _ (by omega) (by omega) (fun _ => g) hz5 hF hC he
          · have b1 := eq_false y1
            simp only [D_X12_readChain, N_X12_readChain, ↓reduceIte, vcS, vcC, vcI, gtF, ptF, inS, inV, fv0, fv1, fv2, fv3, fw0, fw1, lg_0, lg_1, lg_2, lg_3, lg_4, lg_5, lg_6, lg_7, lg_8, lg_9, lg_10, lg_11, lg_12, lg_13, lg_14, lsq_0, lsl_0, lsq_1, lsl_1, lsq_2, lsl_2, lsq_3, lsl_3, lsq_4, lsl_4, lsq_5, lsl_5, lsq_6, lsl_6, lsq_7, lsl_7, lsq_8, lsl_8, lsq_9, lsl_9, lsq_10, lsl_10, lsq_11, lsl_11, lsq_12, lsl_12, lsq_13, lsl_13, lsq_14, lsl_14, tk_0, tk_1, tk_2, tk_3, tk_4, tk_5, tk_6, tk_7, tk_8, cs_n, cs_i, cs_l, cs_r, cs_u, nl, rt_s, rt_n, CST1, Nat.reduceAdd, Nat.reduceLeDiff, va_rf, rtOk, Bool.false_eq_true, Bool.true_eq_false, if_false, if_true, ite_true, ite_false, true_and, and_true, eq_self, ne_eq, not_false_eq_true, not_true_eq_false, false_implies, true_implies, and_self, reduceCtorEq, Nat.reduceBEq, Bool.or_false, Bool.false_or, Bool.or_true, Bool.true_or, if1_0, if1_1, if1_01, one_01, zer_01, lg_cmp_ge, lg_cmp_le, lg_cmp_gt, lg_cmp_lt, lg_cmp_eq, Classical.not_not, SHm hS, SHr hS, a0, a1, a2, b1, nI_1]
            refine ⟨fun g => no (fun u => y1 u.1) g, fun g => ?_⟩
            rw [if_neg (fun u => y1 u.2.1), if_pos ⟨rfl, g⟩] at he
            exact ih (x + 1) 2 z sp lk σ _ _ (by omega) (by omega) (by omega) hz5 hF hC he
        · have a1 : (nI s = (1 : Int32)) = False := eq_false (fun u => s1 ((nI_eq (b := 1) (by omega) (by decide)).mp u))
          have a2 : (nI s < (2 : Int32)) = False := eq_false (by ((try simp only [i_le, i_lt, i_eq, l_le, l_lt, l_eq, i_ne, l_ne, toL, l_add, l_sub1, LIT1, LIT2, Int.reduceNeg, ge_iff_le, gt_iff_lt] at *); omega))
          rw [if_neg (fun u => s1 u.1), if_neg (fun u => s1 u.1)] at he
          have c5 : (5 ≤ nI s) = ¬ (s < 5) := propext ⟨fun z => by ((try simp only [i_le, i_lt, i_eq, l_le, l_lt, l_eq, i_ne, l_ne, toL, l_add, l_sub1, LIT1, LIT2, Int.reduceNeg, ge_iff_le, gt_iff_lt] at *); omega), fun z => by ((try simp only [i_le, i_lt, i_eq, l_le, l_lt, l_eq, i_ne, l_ne, toL, l_add, l_sub1, LIT1, LIT2, Int.reduceNeg, ge_iff_le, gt_iff_lt] at *); omega)⟩
          by_cases dg : dgO (v x)
          · have g' := eq_true dg
            simp only [D_X12_readChain, N_X12_readChain, ↓reduceIte, vcS, vcC, vcI, gtF, ptF, inS, inV, fv0, fv1, fv2, fv3, fw0, fw1, lg_0, lg_1, lg_2, lg_3, lg_4, lg_5, lg_6, lg_7, lg_8, lg_9, lg_10, lg_11, lg_12, lg_13, lg_14, lsq_0, lsl_0, lsq_1, lsl_1, lsq_2, lsl_2, lsq_3, lsl_3, lsq_4, lsl_4, lsq_5, lsl_5, lsq_6, lsl_6, lsq_7, lsl_7, lsq_8, lsl_8, lsq_9, lsl_9, lsq_10, lsl_10, lsq_11, lsl_11, lsq_12, lsl_12, lsq_13, lsl_13, lsq_14, lsl_14, tk_0, tk_1, tk_2, tk_3, tk_4, tk_5, tk_6, tk_7, tk_8, cs_n, cs_i, cs_l, cs_r, cs_u, nl, rt_s, rt_n, CST1, Nat.reduceAdd, Nat.reduceLeDiff, va_rf, rtOk, Bool.false_eq_true, Bool.true_eq_false, if_false, if_true, ite_true, ite_false, true_and, and_true, eq_self, ne_eq, not_false_eq_true, not_true_eq_false, false_implies, true_implies, and_self, reduceCtorEq, Nat.reduceBEq, Bool.or_false, Bool.false_or, Bool.or_true, Bool.true_or, if1_0, if1_1, if1_01, one_01, zer_01, lg_cmp_ge, lg_cmp_le, lg_cmp_gt, lg_cmp_lt, lg_cmp_eq, Classical.not_not, SHm hS, SHr hS, LIT2, toL, g', a0, a1, a2, c5, z10, d2, nI_1]
            refine ⟨fun g => ?_, fun g => ?_⟩
            · rw [if_neg (fun u => g u.1.2)] at he
              exact bad he
            · rw [if_pos ⟨⟨by omega, g⟩, dg⟩] at he
              refine ih (x + 1) (s + 1) z (10 * sp + v x - 48) lk _ _ _ (by omega) (by omega) (by omega) hz5 (fun a k h h' => by rw [s2_n (by omega)]; exact hF a k h h') ⟨by rw [s2_n (by omega)]; exact d1, s2_y ⟨rfl, rfl⟩, fun c hc => by rw [s2_n (by omega)]; exact d3 c hc⟩ he
          · have g' := eq_false dg
            rw [if_neg (fun u => dg u.2)] at he
            have h9 := bad he
            simp only [D_X12_readChain, N_X12_readChain, ↓reduceIte, vcS, vcC, vcI, gtF, ptF, inS, inV, fv0, fv1, fv2, fv3, fw0, fw1, lg_0, lg_1, lg_2, lg_3, lg_4, lg_5, lg_6, lg_7, lg_8, lg_9, lg_10, lg_11, lg_12, lg_13, lg_14, lsq_0, lsl_0, lsq_1, lsl_1, lsq_2, lsl_2, lsq_3, lsl_3, lsq_4, lsl_4, lsq_5, lsl_5, lsq_6, lsl_6, lsq_7, lsl_7, lsq_8, lsl_8, lsq_9, lsl_9, lsq_10, lsl_10, lsq_11, lsl_11, lsq_12, lsl_12, lsq_13, lsl_13, lsq_14, lsl_14, tk_0, tk_1, tk_2, tk_3, tk_4, tk_5, tk_6, tk_7, tk_8, cs_n, cs_i, cs_l, cs_r, cs_u, nl, rt_s, rt_n, CST1, Nat.reduceAdd, Nat.reduceLeDiff, va_rf, rtOk, Bool.false_eq_true, Bool.true_eq_false, if_false, if_true, ite_true, ite_false, true_and, and_true, eq_self, ne_eq, not_false_eq_true, not_true_eq_false, false_implies, true_implies, and_self, reduceCtorEq, Nat.reduceBEq, Bool.or_false, Bool.false_or, Bool.or_true, Bool.true_or, if1_0, if1_1, if1_01, one_01, zer_01, lg_cmp_ge, lg_cmp_le, lg_cmp_gt, lg_cmp_lt, lg_cmp_eq, Classical.not_not, SHm hS, SHr hS, LIT2, toL, g', a0, a1, a2, c5]
            first | exact h9 | exact ⟨fun _ => h9, fun _ => h9⟩
  refine hG (fun q => q == 15) 80 _ _ _ _ (Nat.le_of_ble_eq_true rfl) ?_
  simp only [D_X12_readChain, N_X12_readChain, ↓reduceIte, vcS, vcC, vcI, gtF, ptF, inS, inV, fv0, fv1, fv2, fv3, fw0, fw1, lg_0, lg_1, lg_2, lg_3, lg_4, lg_5, lg_6, lg_7, lg_8, lg_9, lg_10, lg_11, lg_12, lg_13, lg_14, lsq_0, lsl_0, lsq_1, lsl_1, lsq_2, lsl_2, lsq_3, lsl_3, lsq_4, lsl_4, lsq_5, lsl_5, lsq_6, lsl_6, lsq_7, lsl_7, lsq_8, lsl_8, lsq_9, lsl_9, lsq_10, lsl_10, lsq_11, lsl_11, lsq_12, lsl_12, lsq_13, lsl_13, lsq_14, lsl_14, tk_0, tk_1, tk_2, tk_3, tk_4, tk_5, tk_6, tk_7, tk_8, cs_n, cs_i, cs_l, cs_r, cs_u, nl, rt_s, rt_n, CST1, Nat.reduceAdd, Nat.reduceLeDiff, va_rf, rtOk, Bool.false_eq_true, Bool.true_eq_false, if_false, if_true, ite_true, ite_false, true_and, and_true, eq_self, ne_eq, not_false_eq_true, not_true_eq_false, false_implies, true_implies, and_self, reduceCtorEq, Nat.reduceBEq, Bool.or_false, Bool.false_or, Bool.or_true, Bool.true_or, if1_0, if1_1, if1_01, one_01, zer_01, lg_cmp_ge, lg_cmp_le, lg_cmp_gt, lg_cmp_lt, lg_cmp_eq, Classical.not_not, SHm hS, SHr hS]
  exact lo w 0 0 0 0 lk0 (s2 (s2 sg 48 26 0) 48 28 0) _ _ (by omega) (by omega) (fun _ => by omega) (by omega) (fun a k h h' => by rw [s2_n (by omega), s2_n (by omega)]) ⟨by rw [s2_n (by omega), s2_y ⟨rfl, rfl⟩]; rfl, s2_y ⟨rfl, rfl⟩, fun c hc => absurd hc (by omega)⟩ rfl
end H74
