/-! part 72: chains: the text, as the class reads it -/
section H72
variable {d n N T Q F : Nat} {mu : aM} {ro : aR} {sg σ : aS} {K : Option Value → aS → Prop} {v : Nat → Int32}
abbrev lkO (Q : Nat) (c : Int32) : Prop := 48 ≤ c.toInt ∧ c.toInt < 48 + (Q : Int)
abbrev dgO (c : Int32) : Prop := 48 ≤ c.toInt ∧ c.toInt ≤ 57
def rdF (v : Nat → Int32) (Q w : Nat) : Nat → Nat → Nat → Nat → Int32 → (Nat → Int32) → Option Nat × Nat × Int32 × (Nat → Int32)
  | 0, _, s, z, sp, lk => (if 2 < s then none else some w, z, sp, lk)
  | m + 1, x, s, z, sp, lk => if s = 0 ∧ lkO Q (v x) then rdF v Q w m (x + 1) 1 (z + 1) sp (upd lk z (v x - 48)) else if s = 1 ∧ v x = 44 ∧ z < 5 then rdF v Q w m (x + 1) 0 z sp lk else if s = 1 ∧ v x = 64 then rdF v Q w m (x + 1) 2 z sp lk else if (2 ≤ s ∧ s < 5) ∧ dgO (v x) then rdF v Q w m (x + 1) (s + 1) z (10 * sp + v x - 48) lk else (some x, z, sp, lk)
def rdB (o : Option Nat) : Int32 := match o with
  | none => -9
  | some x => nI x
/-- the text as it was read, in the class -/
def C_rd (s : aS) (z : Nat) (sp : Int32) (lk : Nat → Int32) : Prop := s 21 1 = nI z ∧ s 21 2 = sp ∧ ∀ c, c < z → s 22 c = lk c
set_option maxHeartbeats 4000000 in
set_option maxRecDepth 100000 in
theorem c_readSpan {k i w fr z : Nat} {sp : Int32} {lk : Nat → Int32} (hS : Sh mu ro) (hk4 : k < 4) (hiw : i + w ≤ 60) (hfr : fr ≤ w) (hv : ∀ j, j < w → sg (41 + 2 * k) (i + j) = v j) (hC9 : C_rd sg z sp lk) (hk : ∀ σ, (∀ a k, ¬ (a = 21 ∧ k = 2) → σ a k = sg a k) → C_rd σ (rdF v Q w (w - fr) fr 2 z sp lk).2.1 (rdF v Q w (w - fr) fr 2 z sp lk).2.2.1 (rdF v Q w (w - fr) fr 2 z sp lk).2.2.2 → K (some (.int (rdB (rdF v Q w (w - fr) fr 2 z sp lk).1))) σ) : aCall d 2 [.ref 21, .ref (40 + 2 * k), .int (nI i), .int (nI w), .int (nI fr)] n mu ro sg K := by
  obtain ⟨u1, u2, u3⟩ := shm hS hk4
  refine aCall_start (mL := 7) (cc := cX0_readSpan) (o := 0) (ret := (some .int)) 2 (by decide) (by decide +kernel) rfl rfl rfl rfl (Nat.le_of_ble_eq_true rfl) (fun G hC hG => ?_)
  simp only [exL, List.cons_append, List.nil_append, rp_0, rp_1, rp_2, rp_3, rp_4, rp_5, rp_6, rp_7, rp_8, rp_9, rp_10, rp_11, List.append_nil]
  have lo : ∀ (m x : Nat) (sp' : Int32) (σ : aS) (v6 : Value), x + m = w → fr ≤ x → x ≤ fr + 3 → (∀ a k, ¬ (a = 21 ∧ k = 2) → σ a k = sg a k) → C_rd σ z sp' lk → rdF v Q w (w - fr) fr 2 z sp lk = rdF v Q w m x (2 + (x - fr)) z sp' lk → AW G 7 n 0 0 mu ro σ 4 [.ref 21, .ref (40 + 2 * k), .int (nI i), .int (nI w), .int (nI fr), .int (nI x), v6] [] := by
    intro m
    induction m with
    | zero =>
      intro x sp' σ v6 hx h1 h2 hF hC he
      have hq : (nI w ≤ nI x) = True := eq_true (nI_le (by omega) (by omega))
      have hq2 : (nI w ≤ nI fr) = (w ≤ fr) := propext ⟨fun z => by have := nI_toInt (n := w) (by omega); have := nI_toInt (n := fr) (by omega); ((try simp only [i_le, i_lt, i_eq, l_le, l_lt, l_eq, i_ne, l_ne, toL, l_add, l_sub1, LIT1, LIT2, Int.reduceNeg, ge_iff_le, gt_iff_lt] at *); omega), fun z => nI_le z (by omega)⟩
      have hk3 := hk σ hF
      rw [he, rdF] at hk3
      have hk4' := hk3 hC
      refine hG (fun q => q == 4) 80 _ _ _ _ (Nat.le_of_ble_eq_true rfl) ?_
      simp only [D_X0_readSpan, ↓reduceIte, vcS, vcC, vcI, gtF, ptF, inS, inV, fv0, fv1, fv2, fv3, fw0, fw1, lg_0, lg_1, lg_2, lg_3, lg_4, lg_5, lg_6, lg_7, lg_8, lg_9, lg_10, lg_11, lg_12, lg_13, lg_14, lsq_0, lsl_0, lsq_1, lsl_1, lsq_2, lsl_2, lsq_3, lsl_3, lsq_4, lsl_4, lsq_5, lsl_5, lsq_6, lsl_6, lsq_7, lsl_7, lsq_8, lsl_8, lsq_9, lsl_9, lsq_10, lsl_10, lsq_11, lsl_11, lsq_12, lsl_12, lsq_13, lsl_13, lsq_14, lsl_14, tk_0, tk_1, tk_2, tk_3, tk_4, tk_5, tk_6, tk_7, tk_8, cs_n, cs_i, cs_l, cs_r, cs_u, nl, rt_s, rt_n, CST1, Nat.reduceAdd, Nat.reduceLeDiff, va_rf, rtOk, Bool.false_eq_true, Bool.true_eq_false, if_false, if_true, ite_true, ite_false, true_and, and_true, eq_self, ne_eq, not_false_eq_true, not_true_eq_false, false_implies, true_implies, and_self, reduceCtorEq, Nat.reduceBEq, Bool.or_false, Bool.false_or, Bool.or_true, Bool.true_or, if1_0, if1_1, if1_01, one_01, zer_01, lg_cmp_ge, lg_cmp_le, lg_cmp_gt, lg_cmp_lt, lg_cmp_eq, Classical.not_not, ↓im_T hq, ↓im_TN hq, hq, hq2]
      refine ⟨fun g => ?_, fun g => ?_⟩
      · simp only [if_neg (show ¬ 2 < 2 + (x - fr) by omega)] at hk4'
        exact hk4'
      · simp only [if_pos (show 2 < 2 + (x - fr) by omega)] at hk4'
        exact hk4'
    | succ m ih =>
      intro x sp' σ v6 hx h1 h2 hF hC he
      have hq : (nI w ≤ nI x) = False := eq_false (nI_ge (by omega) (by omega))
      have ex : (nI (i + x)).toNatClampNeg = i + x := nI_clamp (by omega)
      have vx : vp_in (nI (i + x)) 60 := vp_in_nI (by omega) (by decide)
      have ec : σ (41 + 2 * k) (i + x) = v x := by rw [hF _ _ (by omega)]; exact hv x (by omega)
      have sb : nI x - nI fr = nI (x - fr) := pk_sub h1
      have tq : (nI (x - fr)).toInt = (x - fr : Nat) := nI_toInt (by omega)
      have c1 : (v x < 48) = ¬ (48 ≤ (v x).toInt) := propext ⟨fun z => by ((try simp only [i_le, i_lt, i_eq, l_le, l_lt, l_eq, i_ne, l_ne, toL, l_add, l_sub1, LIT1, LIT2, Int.reduceNeg, ge_iff_le, gt_iff_lt] at *); omega), fun z => by ((try simp only [i_le, i_lt, i_eq, l_le, l_lt, l_eq, i_ne, l_ne, toL, l_add, l_sub1, LIT1, LIT2, Int.reduceNeg, ge_iff_le, gt_iff_lt] at *); omega)⟩
      have c2 : (57 < v x) = ¬ ((v x).toInt ≤ 57) := propext ⟨fun z => by ((try simp only [i_le, i_lt, i_eq, l_le, l_lt, l_eq, i_ne, l_ne, toL, l_add, l_sub1, LIT1, LIT2, Int.reduceNeg, ge_iff_le, gt_iff_lt] at *); omega), fun z => by ((try simp only [i_le, i_lt, i_eq, l_le, l_lt, l_eq, i_ne, l_ne, toL, l_add, l_sub1, LIT1, LIT2, Int.reduceNeg, ge_iff_le, gt_iff_lt] at *); omega)⟩
      have c3 : (nI (x - fr) < 3) = (x - fr < 3) := propext ⟨fun z => by ((try simp only [i_le, i_lt, i_eq, l_le, l_lt, l_eq, i_ne, l_ne, toL, l_add, l_sub1, LIT1, LIT2, Int.reduceNeg, ge_iff_le, gt_iff_lt] at *); omega), fun z => by ((try simp only [i_le, i_lt, i_eq, l_le, l_lt, l_eq, i_ne, l_ne, toL, l_add, l_sub1, LIT1, LIT2, Int.reduceNeg, ge_iff_le, gt_iff_lt] at *); omega)⟩
      obtain ⟨d1, d2, d3⟩ := id hC
      rw [rdF, if_neg (by omega), if_neg (by omega), if_neg (by omega)] at he
      have bad : ¬ ((2 ≤ 2 + (x - fr) ∧ 2 + (x - fr) < 5) ∧ dgO (v x)) → K (some (.int (nI x))) σ := by
        intro y
        rw [if_neg y] at he
        have hk3 := hk σ hF
        rw [he] at hk3
        exact hk3 hC
      have mt : sp' * 10 + v x - 48 = 10 * sp' + v x - 48 := by rw [Int32.mul_comm]
      refine hG (fun q => q == 4) 80 _ _ _ _ (Nat.le_of_ble_eq_true rfl) ?_
      simp only [D_X0_readSpan, ↓reduceIte, vcS, vcC, vcI, gtF, ptF, inS, inV, fv0, fv1, fv2, fv3, fw0, fw1, lg_0, lg_1, lg_2, lg_3, lg_4, lg_5, lg_6, lg_7, lg_8, lg_9, lg_10, lg_11, lg_12, lg_13, lg_14, lsq_0, lsl_0, lsq_1, lsl_1, lsq_2, lsl_2, lsq_3, lsl_3, lsq_4, lsl_4, lsq_5, lsl_5, lsq_6, lsl_6, lsq_7, lsl_7, lsq_8, lsl_8, lsq_9, lsl_9, lsq_10, lsl_10, lsq_11, lsl_11, lsq_12, lsl_12, lsq_13, lsl_13, lsq_14, lsl_14, tk_0, tk_1, tk_2, tk_3, tk_4, tk_5, tk_6, tk_7, tk_8, cs_n, cs_i, cs_l, cs_r, cs_u, nl, rt_s, rt_n, CST1, Nat.reduceAdd, Nat.reduceLeDiff, va_rf, rtOk, Bool.false_eq_true, Bool.true_eq_false, if_false, if_true, ite_true, ite_false, true_and, and_true, eq_self, ne_eq, not_false_eq_true, not_true_eq_false, false_implies, true_implies, and_self, reduceCtorEq, Nat.reduceBEq, Bool.or_false, Bool.false_or, Bool.or_true, Bool.true_or, if1_0, if1_1, if1_01, one_01, zer_01, lg_cmp_ge, lg_cmp_le, lg_cmp_gt, lg_cmp_lt, lg_cmp_eq, Classical.not_not, ↓im_F hq, ↓im_FN hq, hq, u1, u2, u3, nI_add, ex, vx, ec, sb, c1, c2, c3, SHm hS, SHr hS, d2, mt, nI_1]
      refine ⟨fun y1 => bad (fun u => y1 u.2.1), fun y1 => ⟨fun y2 => bad (fun u => y2 u.2.2), fun y2 => ⟨fun y3 => ?_, fun y3 => bad (fun u => y3 (by omega))⟩⟩⟩
      rw [if_pos ⟨⟨by omega, by omega⟩, y1, y2⟩] at he
      refine ih (x + 1) (10 * sp' + v x - 48) _ _ (by omega) (by omega) (by omega) (fun a k h => by rw [s2_n (by omega)]; exact hF a k h) ⟨by rw [s2_n (by omega)]; exact d1, s2_y ⟨rfl, rfl⟩, fun c hc => by rw [s2_n (by omega)]; exact d3 c hc⟩ ?_
      rw [show 2 + (x + 1 - fr) = 2 + (x - fr) + 1 by omega]
      exact he
  refine hG (fun q => q == 4) 80 _ _ _ _ (Nat.le_of_ble_eq_true rfl) ?_
  simp only [D_X0_readSpan, ↓reduceIte, vcS, vcC, vcI, gtF, ptF, inS, inV, fv0, fv1, fv2, fv3, fw0, fw1, lg_0, lg_1, lg_2, lg_3, lg_4, lg_5, lg_6, lg_7, lg_8, lg_9, lg_10, lg_11, lg_12, lg_13, lg_14, lsq_0, lsl_0, lsq_1, lsl_1, lsq_2, lsl_2, lsq_3, lsl_3, lsq_4, lsl_4, lsq_5, lsl_5, lsq_6, lsl_6, lsq_7, lsl_7, lsq_8, lsl_8, lsq_9, lsl_9, lsq_10, lsl_10, lsq_11, lsl_11, lsq_12, lsl_12, lsq_13, lsl_13, lsq_14, lsl_14, tk_0, tk_1, tk_2, tk_3, tk_4, tk_5, tk_6, tk_7, tk_8, cs_n, cs_i, cs_l, cs_r, cs_u, nl, rt_s, rt_n, CST1, Nat.reduceAdd, Nat.reduceLeDiff, va_rf, rtOk, Bool.false_eq_true, Bool.true_eq_false, if_false, if_true, ite_true, ite_false, true_and, and_true, eq_self, ne_eq, not_false_eq_true, not_true_eq_false, false_implies, true_implies, and_self, reduceCtorEq, Nat.reduceBEq, Bool.or_false, Bool.false_or, Bool.or_true, Bool.true_or, if1_0, if1_1, if1_01, one_01, zer_01, lg_cmp_ge, lg_cmp_le, lg_cmp_gt, lg_cmp_lt, lg_cmp_eq, Classical.not_not]
  exact lo (w - fr) fr sp sg _ (by omega) (Nat.le_refl _) (by omega) (fun _ _ _ => rfl) hC9 (by rw [Nat.sub_self])
end H72
