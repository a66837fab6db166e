/-! part 73: chains: the whole text, as the class reads it -/
section H73
variable {d n N T Q F : Nat} {mu : aM} {ro : aR} {sg σ : aS} {K : Option Value → aS → Prop} {v : Nat → Int32}
set_option maxHeartbeats 4000000 in
set_option maxRecDepth 100000 in
theorem c_read {k i w : Nat} {lk0 : Nat → Int32} (hS : Sh mu ro) (hd : 1 ≤ d) (hk4 : k < 4) (hiw : i + w ≤ 60) (hQ : Q ≤ 8) (hv : ∀ j, j < w → sg (41 + 2 * k) (i + j) = v j) (hk : ∀ σ, (∀ a k, a ≠ 21 → a ≠ 22 → σ a k = sg a k) → C_rd σ (rdF v Q w w 0 0 0 0 lk0).2.1 (rdF v Q w w 0 0 0 0 lk0).2.2.1 (rdF v Q w w 0 0 0 0 lk0).2.2.2 → K (some (.int (rdB (rdF v Q w w 0 0 0 0 lk0).1))) σ) : aCall d 1 [.ref 21, .ref (40 + 2 * k), .int (nI i), .int (nI w), .int (nI Q)] n mu ro sg K := by
  obtain ⟨u1, u2, u3⟩ := shm hS hk4
  have tQ : (nI (48 + Q)).toInt = (48 + Q : Nat) := nI_toInt (by omega)
  have eQ : (48 : Int32) + nI Q = nI (48 + Q) := by rw [← nI_add]; rfl
  refine aCall_start (mL := 8) (cc := cX0_read) (o := 0) (ret := (some .int)) 3 (by decide) (by decide +kernel) rfl rfl rfl rfl (Nat.le_of_ble_eq_true rfl) (fun G hC hG => ?_)
  simp only [exL, List.cons_append, List.nil_append, rp_0, rp_1, rp_2, rp_3, rp_4, rp_5, rp_6, rp_7, rp_8, rp_9, rp_10, rp_11, List.append_nil]
  have lo : ∀ (m x s z : Nat) (lk : Nat → Int32) (σ : aS) (v7 : Value), x + m = w → s ≤ 1 → (s = 0 → z < 5) → z ≤ 5 → (∀ a k, a ≠ 21 → a ≠ 22 → σ a k = sg a k) → C_rd σ z 0 lk → rdF v Q w w 0 0 0 0 lk0 = rdF v Q w m x s z 0 lk → AW G 8 n 0 0 mu ro σ 16 [.ref 21, .ref (40 + 2 * k), .int (nI i), .int (nI w), .int (nI Q), .int (if s = 0 then 1 else 0), .int (nI x), v7] [] := by
    intro m
    induction m with
    | zero =>
      intro x s z lk σ v7 hx hs hz hz5 hF hC he
      have hq : (nI w ≤ nI x) = True := eq_true (nI_le (by omega) (by omega))
      have hk3 := hk σ hF
      rw [he, rdF, if_neg (by omega)] at hk3
      refine hG (fun q => q == 16) 80 _ _ _ _ (Nat.le_of_ble_eq_true rfl) ?_
      simp only [D_X0_read, N_X0_read, ↓reduceIte, vcS, vcC, vcI, gtF, ptF, inS, inV, fv0, fv1, fv2, fv3, fw0, fw1, lg_0, lg_1, lg_2, lg_3, lg_4, lg_5, lg_6, lg_7, lg_8, lg_9, lg_10, lg_11, lg_12, lg_13, lg_14, lsq_0, lsl_0, lsq_1, lsl_1, lsq_2, lsl_2, lsq_3, lsl_3, lsq_4, lsl_4, lsq_5, lsl_5, lsq_6, lsl_6, lsq_7, lsl_7, lsq_8, lsl_8, lsq_9, lsl_9, lsq_10, lsl_10, lsq_11, lsl_11, lsq_12, lsl_12, lsq_13, lsl_13, lsq_14, lsl_14, tk_0, tk_1, tk_2, tk_3, tk_4, tk_5, tk_6, tk_7, tk_8, cs_n, cs_i, cs_l, cs_r, cs_u, nl, rt_s, rt_n, CST1, Nat.reduceAdd, Nat.reduceLeDiff, va_rf, rtOk, Bool.false_eq_true, Bool.true_eq_false, if_false, if_true, ite_true, ite_false, true_and, and_true, eq_self, ne_eq, not_false_eq_true, not_true_eq_false, false_implies, true_implies, and_self, reduceCtorEq, Nat.reduceBEq, Bool.or_false, Bool.false_or, Bool.or_true, Bool.true_or, if1_0, if1_1, if1_01, one_01, zer_01, lg_cmp_ge, lg_cmp_le, lg_cmp_gt, lg_cmp_lt, lg_cmp_eq, Classical.not_not, ↓im_T hq, ↓im_TN hq, hq]
      exact hk3 hC
    | succ m ih =>
      intro x s z lk σ v7 hx hs hz hz5 hF hC he
      have hq : (nI w ≤ nI x) = False := eq_false (nI_ge (by omega) (by omega))
      have ex : (nI (i + x)).toNatClampNeg = i + x := nI_clamp (by omega)
      have vx : vp_in (nI (i + x)) 60 := vp_in_nI (by omega) (by decide)
      have ec : σ (41 + 2 * k) (i + x) = v x := by rw [hF _ _ (by omega) (by omega)]; exact hv x (by omega)
      have tz : (nI z).toInt = z := nI_toInt (by omega)
      obtain ⟨d1, d2, d3⟩ := id hC
      rw [rdF] at he
      have bad : rdF v Q w w 0 0 0 0 lk0 = (some x, z, 0, lk) → K (some (.int (nI x))) σ := by
        intro y
        have hk3 := hk σ hF
        rw [y] at hk3
        exact hk3 hC
      by_cases s0 : s = 0
      · subst s0
        have z5 := hz rfl
        have cz : (nI z < 5) = True := eq_true (by ((try simp only [i_le, i_lt, i_eq, l_le, l_lt, l_eq, i_ne, l_ne, toL, l_add, l_sub1, LIT1, LIT2, Int.reduceNeg, ge_iff_le, gt_iff_lt] at *); omega))
        have ez : (nI z).toNatClampNeg = z := nI_clamp (by omega)
        have vz : vp_in (nI z) 5 := vp_in_nI z5 (by decide)
        have c1 : (v x < 48) = ¬ (48 ≤ (v x).toInt) := propext ⟨fun z => by ((try simp only [i_le, i_lt, i_eq, l_le, l_lt, l_eq, i_ne, l_ne, toL, l_add, l_sub1, LIT1, LIT2, Int.reduceNeg, ge_iff_le, gt_iff_lt] at *); omega), fun z => by ((try simp only [i_le, i_lt, i_eq, l_le, l_lt, l_eq, i_ne, l_ne, toL, l_add, l_sub1, LIT1, LIT2, Int.reduceNeg, ge_iff_le, gt_iff_lt] at *); omega)⟩
        have c2 : (nI (48 + Q) ≤ v x) = ¬ ((v x).toInt < 48 + (Q : Int)) := propext ⟨fun z => by ((try simp only [i_le, i_lt, i_eq, l_le, l_lt, l_eq, i_ne, l_ne, toL, l_add, l_sub1, LIT1, LIT2, Int.reduceNeg, ge_iff_le, gt_iff_lt] at *); omega), fun z => by ((try simp only [i_le, i_lt, i_eq, l_le, l_lt, l_eq, i_ne, l_ne, toL, l_add, l_sub1, LIT1, LIT2, Int.reduceNeg, ge_iff_le, gt_iff_lt] at *); omega)⟩
        have f1 : (if 0 = 0 then (1 : Int32) else 0) = 1 := rfl
        have r1 : s2 σ 22 z (v x - 48) 21 1 = nI z := by rw [s2_n (by omega)]; exact d1
        have b0 : ¬ lkO Q (v x) → rdF v Q w w 0 0 0 0 lk0 = (some x, z, 0, lk) := by
          intro y
          rw [if_neg (fun u => y u.2), if_neg (by omega), if_neg (by omega), if_neg (by omega)] at he
          exact he
        rw [f1]
        refine hG (fun q => q == 16) 80 _ _ _ _ (Nat.le_of_ble_eq_true rfl) ?_
        simp only [D_X0_read, N_X0_read, ↓reduceIte, vcS, vcC, vcI, gtF, ptF, inS, inV, fv0, fv1, fv2, fv3, fw0, fw1, lg_0, lg_1, lg_2, lg_3, lg_4, lg_5, lg_6, lg_7, lg_8, lg_9, lg_10, lg_11, lg_12, lg_13, lg_14, lsq_0, lsl_0, lsq_1, lsl_1, lsq_2, lsl_2, lsq_3, lsl_3, lsq_4, lsl_4, lsq_5, lsl_5, lsq_6, lsl_6, lsq_7, lsl_7, lsq_8, lsl_8, lsq_9, lsl_9, lsq_10, lsl_10, lsq_11, lsl_11, lsq_12, lsl_12, lsq_13, lsl_13, lsq_14, lsl_14, tk_0, tk_1, tk_2, tk_3, tk_4, tk_5, tk_6, tk_7, tk_8, cs_n, cs_i, cs_l, cs_r, cs_u, nl, rt_s, rt_n, CST1, Nat.reduceAdd, Nat.reduceLeDiff, va_rf, rtOk, Bool.false_eq_true, Bool.true_eq_false, if_false, if_true, ite_true, ite_false, true_and, and_true, eq_self, ne_eq, not_false_eq_true, not_true_eq_false, false_implies, true_implies, and_self, reduceCtorEq, Nat.reduceBEq, Bool.or_false, Bool.false_or, Bool.or_true, Bool.true_or, if1_0, if1_1, if1_01, one_01, zer_01, lg_cmp_ge, lg_cmp_le, lg_cmp_gt, lg_cmp_lt, lg_cmp_eq, Classical.not_not, ↓im_F hq, ↓im_FN hq, hq, u1, u2, u3, nI_add, ex, vx, ec, z10, c1, eQ, c2, SHm hS, SHr hS, d1, cz, ez, vz, r1, nI_1]
        refine ⟨fun y1 => bad (b0 (fun u => y1 u.1)), fun y1 => ⟨fun y2 => bad (b0 (fun u => y2 u.2)), fun y2 => ?_⟩⟩
        rw [if_pos ⟨rfl, y1, y2⟩] at he
        have := ih (x + 1) 1 (z + 1) (upd lk z (v x - 48)) (s2 (s2 σ 22 z (v x - 48)) 21 1 (nI (z + 1))) (.int (v x)) (by omega) (by omega) (by omega) (by omega) (fun a k h h' => by rw [s2_n (by omega), s2_n (by omega)]; exact hF a k h h') ⟨s2_y ⟨rfl, rfl⟩, by rw [s2_n (by omega), s2_n (by omega)]; exact d2, fun c hc => ?_⟩ he
        · exact this
        · by_cases e : c = z
          · rw [e, pk_us, s2_n (by omega), s2_y ⟨rfl, rfl⟩]
          · rw [pk_un e, s2_n (by omega), s2_n (by omega)]
            exact d3 c (by omega)
      · have s1 : s = 1 := by omega
        subst s1
        have f1 : (if 1 = 0 then (1 : Int32) else 0) = 0 := rfl
        have cz : (5 ≤ nI z) = ¬ (z < 5) := propext ⟨fun z => by ((try simp only [i_le, i_lt, i_eq, l_le, l_lt, l_eq, i_ne, l_ne, toL, l_add, l_sub1, LIT1, LIT2, Int.reduceNeg, ge_iff_le, gt_iff_lt] at *); omega), fun z => by ((try simp only [i_le, i_lt, i_eq, l_le, l_lt, l_eq, i_ne, l_ne, toL, l_add, l_sub1, LIT1, LIT2, Int.reduceNeg, ge_iff_le, gt_iff_lt] at *); omega)⟩
        rw [if_neg (by omega)] at he
        rw [f1]
        have sp : ∀ Z : Option Value → aS → Prop, v x = 64 → ¬ (v x = 44 ∧ z < 5) → (∀ σ', K (some (.int (rdB (rdF v Q w w 0 0 0 0 lk0).1))) σ' → Z (some (.int (rdB (rdF v Q w w 0 0 0 0 lk0).1))) σ') → aCall (d - 1) 2 [.ref 21, .ref (40 + 2 * k), .int (nI i), .int (nI w), .int (nI (x + 1))] n mu ro σ Z := by
          intro Z y1 y2 hZ
          rw [if_neg (fun u => y2 u.2), if_pos ⟨rfl, y1⟩, show m = w - (x + 1) by omega] at he
          refine c_readSpan (v := v) (Q := Q) (z := z) (sp := 0) (lk := lk) hS hk4 hiw (by omega) (fun j hj => by rw [hF _ _ (by omega) (by omega)]; exact hv j hj) hC (fun σ' h1 h2 => ?_)
          rw [← he] at h2 ⊢
          exact hZ σ' (hk σ' (fun a k q q' => by rw [h1 a k (by omega)]; exact hF a k q q') h2)
        have no : ¬ (v x = 44 ∧ z < 5) → ¬ v x = 64 → K (some (.int (nI x))) σ := by
          intro y1 y2
          rw [if_neg (fun u => y1 u.2), if_neg (fun u => y2 u.2), if_neg (by omega)] at he
          exact bad he
        by_cases y1 : v x = 44
        · have b1 := eq_true y1
          have y64 : ¬ v x = 64 := fun u => absurd (y1.symm.trans u) (by decide)
          have b2 := eq_false y64
          refine hG (fun q => q == 16) 80 _ _ _ _ (Nat.le_of_ble_eq_true rfl) ?_
          simp only [D_X0_read, N_X0_read, ↓reduceIte, vcS, vcC, vcI, gtF, ptF, inS, inV, fv0, fv1, fv2, fv3, fw0, fw1, lg_0, lg_1, lg_2, lg_3, lg_4, lg_5, lg_6, lg_7, lg_8, lg_9, lg_10, lg_11, lg_12, lg_13, lg_14, lsq_0, lsl_0, lsq_1, lsl_1, lsq_2, lsl_2, lsq_3, lsl_3, lsq_4, lsl_4, lsq_5, lsl_5, lsq_6, lsl_6, lsq_7, lsl_7, lsq_8, lsl_8, lsq_9, lsl_9, lsq_10, lsl_10, lsq_11, lsl_11, lsq_12, lsl_12, lsq_13, lsl_13, lsq_14, lsl_14, tk_0, tk_1, tk_2, tk_3, tk_4, tk_5, tk_6, tk_7, tk_8, cs_n, cs_i, cs_l, cs_r, cs_u, nl, rt_s, rt_n, CST1, Nat.reduceAdd, Nat.reduceLeDiff, va_rf, rtOk, Bool.false_eq_true, Bool.true_eq_false, if_false, if_true, ite_true, ite_false, true_and, and_true, eq_self, ne_eq, not_false_eq_true, not_true_eq_false, false_implies, true_implies, and_self, reduceCtorEq, Nat.reduceBEq, Bool.or_false, Bool.false_or, Bool.or_true, Bool.true_or, if1_0, if1_1, if1_01, one_01, zer_01, lg_cmp_ge, lg_cmp_le, lg_cmp_gt, lg_cmp_lt, lg_cmp_eq, Classical.not_not, ↓im_F hq, ↓im_FN hq, hq, u1, u2, u3, nI_add, ex, vx, ec, b1, b2, SHm hS, SHr hS, d1, cz, nI_1]
          refine ⟨fun g => no (fun u => g u.2) y64, fun g => ?_⟩
          rw [if_pos ⟨rfl, y1, g⟩] at he
          have := ih (x + 1) 0 z lk σ (.int (v x)) (by omega) (by omega) (fun _ => g) hz5 hF hC he
          exact this
        · have b1 := eq_false y1
          refine hG (fun q => q == 16) 80 _ _ _ _ (Nat.le_of_ble_eq_true rfl) ?_
          simp only [D_X0_read, N_X0_read, ↓reduceIte, vcS, vcC, vcI, gtF, ptF, inS, inV, fv0, fv1, fv2, fv3, fw0, fw1, lg_0, lg_1, lg_2, lg_3, lg_4, lg_5, lg_6, lg_7, lg_8, lg_9, lg_10, lg_11, lg_12, lg_13, lg_14, lsq_0, lsl_0, lsq_1, lsl_1, lsq_2, lsl_2, lsq_3, lsl_3, lsq_4, lsl_4, lsq_5, lsl_5, lsq_6, lsl_6, lsq_7, lsl_7, lsq_8, lsl_8, lsq_9, lsl_9, lsq_10, lsl_10, lsq_11, lsl_11, lsq_12, lsl_12, lsq_13, lsl_13, lsq_14, lsl_14, tk_0, tk_1, tk_2, tk_3, tk_4, tk_5, tk_6, tk_7, tk_8, cs_n, cs_i, cs_l, cs_r, cs_u, nl, rt_s, rt_n, CST1, Nat.reduceAdd, Nat.reduceLeDiff, va_rf, rtOk, Bool.false_eq_true, Bool.true_eq_false, if_false, if_true, ite_true, ite_false, true_and, and_true, eq_self, ne_eq, not_false_eq_true, not_true_eq_false, false_implies, true_implies, and_self, reduceCtorEq, Nat.reduceBEq, Bool.or_false, Bool.false_or, Bool.or_true, Bool.true_or, if1_0, if1_1, if1_01, one_01, zer_01, lg_cmp_ge, lg_cmp_le, lg_cmp_gt, lg_cmp_lt, lg_cmp_eq, Classical.not_not, ↓im_F hq, ↓im_FN hq, hq, u1, u2, u3, nI_add, ex, vx, ec, b1, SHm hS, SHr hS, nI_1]
          refine ⟨fun g => no (fun u => y1 u.1) g, fun g => ⟨hd, sp _ g (fun u => y1 u.1) (fun σ' h => ?_)⟩⟩
          simp only [D_X0_read, N_X0_read, ↓reduceIte, vcS, vcC, vcI, gtF, ptF, inS, inV, fv0, fv1, fv2, fv3, fw0, fw1, lg_0, lg_1, lg_2, lg_3, lg_4, lg_5, lg_6, lg_7, lg_8, lg_9, lg_10, lg_11, lg_12, lg_13, lg_14, lsq_0, lsl_0, lsq_1, lsl_1, lsq_2, lsl_2, lsq_3, lsl_3, lsq_4, lsl_4, lsq_5, lsl_5, lsq_6, lsl_6, lsq_7, lsl_7, lsq_8, lsl_8, lsq_9, lsl_9, lsq_10, lsl_10, lsq_11, lsl_11, lsq_12, lsl_12, lsq_13, lsl_13, lsq_14, lsl_14, tk_0, tk_1, tk_2, tk_3, tk_4, tk_5, tk_6, tk_7, tk_8, cs_n, cs_i, cs_l, cs_r, cs_u, nl, rt_s, rt_n, CST1, Nat.reduceAdd, Nat.reduceLeDiff, va_rf, rtOk, Bool.false_eq_true, Bool.true_eq_false, if_false, if_true, ite_true, ite_false, true_and, and_true, eq_self, ne_eq, not_false_eq_true, not_true_eq_false, false_implies, true_implies, and_self, reduceCtorEq, Nat.reduceBEq, Bool.or_false, Bool.false_or, Bool.or_true, Bool.true_or, if1_0, if1_1, if1_01, one_01, zer_01, lg_cmp_ge, lg_cmp_le, lg_cmp_gt, lg_cmp_lt, lg_cmp_eq, Classical.not_not, SHm hS, SHr hS]
          exact h
  refine hG (fun q => q == 16) 80 _ _ _ _ (Nat.le_of_ble_eq_true rfl) ?_
  simp only [D_X0_read, N_X0_read, ↓reduceIte, vcS, vcC, vcI, gtF, ptF, inS, inV, fv0, fv1, fv2, fv3, fw0, fw1, lg_0, lg_1, lg_2, lg_3, lg_4, lg_5, lg_6, lg_7, lg_8, lg_9, lg_10, lg_11, lg_12, lg_13, lg_14, lsq_0, lsl_0, lsq_1, lsl_1, lsq_2, lsl_2, lsq_3, lsl_3, lsq_4, lsl_4, lsq_5, lsl_5, lsq_6, lsl_6, lsq_7, lsl_7, lsq_8, lsl_8, lsq_9, lsl_9, lsq_10, lsl_10, lsq_11, lsl_11, lsq_12, lsl_12, lsq_13, lsl_13, lsq_14, lsl_14, tk_0, tk_1, tk_2, tk_3, tk_4, tk_5, tk_6, tk_7, tk_8, cs_n, cs_i, cs_l, cs_r, cs_u, nl, rt_s, rt_n, CST1, Nat.reduceAdd, Nat.reduceLeDiff, va_rf, rtOk, Bool.false_eq_true, Bool.true_eq_false, if_false, if_true, ite_true, ite_false, true_and, and_true, eq_self, ne_eq, not_false_eq_true, not_true_eq_false, false_implies, true_implies, and_self, reduceCtorEq, Nat.reduceBEq, Bool.or_false, Bool.false_or, Bool.or_true, Bool.true_or, if1_0, if1_1, if1_01, one_01, zer_01, lg_cmp_ge, lg_cmp_le, lg_cmp_gt, lg_cmp_lt, lg_cmp_eq, Classical.not_not, SHm hS, SHr hS]
  have := lo w 0 0 0 lk0 (s2 (s2 sg 21 1 0) 21 2 0) (.float 0) (by omega) (by omega) (fun _ => by omega) (by omega) (fun a k h h' => by rw [s2_n (by omega), s2_n (by omega)]) ⟨by rw [s2_n (by omega), s2_y ⟨rfl, rfl⟩]; rfl, s2_y ⟨rfl, rfl⟩, fun c hc => absurd hc (by omega)⟩ rfl
  exact this
end H73
