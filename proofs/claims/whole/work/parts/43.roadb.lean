/-! part 43: road and post on both sides -/
section H43
variable {d n N : Nat} {mu : aM} {ro : aR} {sg : aS} {K : Option Value → aS → Prop} {R P : Nat → Nat → Bool} {D : Nat} {dA dB : Nat → Nat} {S : Nat → Bool}
theorem mc9 {a : Int32} {a' : Nat} (h : a' < 10) (e : a = nI a') : 0 ≤ a.toInt ∧ a.toInt ≤ 9 := by
  rw [e, nI_toInt (by omega)]
  omega
theorem nI_inj {a b : Nat} {x : Int32} (ha : a < 2 ^ 31) (hb : b < 2 ^ 31) (h1 : x = nI a) (h2 : x = nI b) : a = b := (nI_eq ha hb).mp (h1.symm.trans h2)
theorem M_turn {s s' : aS} {a b : Nat} {v : Bool} (hM : M_nt s R P D dA dB S) (ha : a < 10) (hb : b < 10) (hab : a ≠ b) (hR : R a b = !v) (hR2 : R b a = !v)
    (e49 : ∀ x, s' 49 x = if x = a then s 49 a ^^^ (1 <<< (nI b &&& 31)) else if x = b then s 49 b ^^^ (1 <<< (nI a &&& 31)) else s 49 x) (e50 : ∀ x, s' 50 x = if x = a then s 50 a &&& ((1 <<< (nI b &&& 31)) ^^^ -1) else if x = b then s 50 b &&& ((1 <<< (nI a &&& 31)) ^^^ -1) else s 50 x)
    (e4 : s' 48 4 = s 48 4) (e52 : ∀ e, s' 52 e = s 52 e ∧ s' 53 e = s 53 e) (e51 : ∀ x, s' 51 x = s 51 x) (e7 : rwO (s' 48 7) 8 (ofD dA dB S a b)) : M_nt s' (seE R a b v) (seE P a b false) D dA dB (ofD dA dB S a b) := by
  obtain ⟨x1, x2, x3, x4, x5, x6⟩ := hM
  refine ⟨fun x hx => ?_, fun x hx => ?_, by rw [e4]; exact x3, fun e he => ?_, e7, fun x y hx hy => ?_⟩
  · rw [e49]
    by_cases q1 : x = a
    · rw [if_pos q1, q1]
      exact rs_xo (x1 a ha) hb hab hR
    · by_cases q2 : x = b
      · rw [if_neg q1, if_pos q2, q2, seE_c]
        exact rs_xo (x1 b hb) ha hab.symm hR2
      · rw [if_neg q1, if_neg q2]
        exact rw_cg (x1 x hx) (fun j _ => (seE_o q1 q2 j).symm)
  · rw [e50]
    by_cases q1 : x = a
    · rw [if_pos q1, q1]
      exact rs_an (x2 a ha) hb hab
    · by_cases q2 : x = b
      · rw [if_neg q1, if_pos q2, q2, seE_c]
        exact rs_an (x2 b hb) ha hab.symm
      · rw [if_neg q1, if_neg q2]
        exact rw_cg (x2 x hx) (fun j _ => (seE_o q1 q2 j).symm)
  · rw [(e52 e).1, (e52 e).2]
    exact x4 e he
  · rw [e51]
    exact x6 x y hx hy
set_option maxHeartbeats 4000000 in
set_option maxRecDepth 100000 in
theorem m_road {a b : Int32} {p : Prop} [Decidable p] (hS : Sh mu ro) (hd : 4 ≤ d) (hN : Nt R P D dA dB S) (hM : M_nt sg R P D dA dB S) (hk1 : ¬ ((0 ≤ a.toInt ∧ a.toInt ≤ 9) ∧ (0 ≤ b.toInt ∧ b.toInt ≤ 9)) → K (some (.int (-1))) sg) (hk2 : (0 ≤ a.toInt ∧ a.toInt ≤ 9) ∧ (0 ≤ b.toInt ∧ b.toInt ≤ 9) → a = b → K (some (.int (-2))) sg)
    (hk3 : ∀ a' b' : Nat, a' < 10 → b' < 10 → a' ≠ b' → a = nI a' → b = nI b' → (R a' b' = true ↔ p) → K (some (.int 0)) sg)
    (hk4 : ∀ a' b' : Nat, a' < 10 → b' < 10 → a' ≠ b' → a = nI a' → b = nI b' → ¬ (R a' b' = true ↔ p) → ∀ σ, M_nt σ (seE R a' b' (decide p)) (seE P a' b' false) D dA dB (ofD dA dB S a' b') → (∀ x k, x ≠ 49 → x ≠ 50 → ¬ (x = 48 ∧ k = 7) → σ x k = sg x k) → K (some (.int 1)) σ) : aCall d 166 [.ref 48, .int a, .int b, .int (if p then 1 else 0)] n mu ro sg K := by
  refine aCall_start (mL := 4) (cc := cX12_road) (o := 12) (ret := (some .int)) 0 (by decide) (by decide +kernel) rfl rfl rfl rfl (Nat.le_of_ble_eq_true rfl) (fun G hC hG => ?_)
  simp only [exL, List.cons_append, List.nil_append, rp_0, rp_1, rp_2, rp_3, rp_4, rp_5, rp_6, rp_7, rp_8, rp_9, rp_10, rp_11, List.append_nil]
  refine hG (fun _ => false) 140 _ _ _ _ (Nat.le_of_ble_eq_true rfl) ?_
  simp only [D_X12_road, ↓reduceIte, vcS, vcC, vcI, gtF, ptF, inS, inV, fv0, fv1, fv2, fv3, fw0, fw1, lg_0, lg_1, lg_2, lg_3, lg_4, lg_5, lg_6, lg_7, lg_8, lg_9, lg_10, lg_11, lg_12, lg_13, lg_14, lsq_0, lsl_0, lsq_1, lsl_1, lsq_2, lsl_2, lsq_3, lsl_3, lsq_4, lsl_4, lsq_5, lsl_5, lsq_6, lsl_6, lsq_7, lsl_7, lsq_8, lsl_8, lsq_9, lsl_9, lsq_10, lsl_10, lsq_11, lsl_11, lsq_12, lsl_12, lsq_13, lsl_13, lsq_14, lsl_14, tk_0, tk_1, tk_2, tk_3, tk_4, tk_5, tk_6, tk_7, tk_8, cs_n, cs_i, cs_l, cs_r, cs_u, nl, rt_s, rt_n, CST1, Nat.reduceAdd, Nat.reduceLeDiff, va_rf, rtOk, Bool.false_eq_true, Bool.true_eq_false, if_false, if_true, ite_true, ite_false, true_and, and_true, eq_self, ne_eq, not_false_eq_true, not_true_eq_false, false_implies, true_implies, and_self, reduceCtorEq, Nat.reduceBEq, Bool.or_false, Bool.false_or, Bool.or_true, Bool.true_or, if1_0, if1_1, if1_01, one_01, zer_01, lg_cmp_ge, lg_cmp_le, lg_cmp_gt, lg_cmp_lt, lg_cmp_eq, Classical.not_not, SHm hS, SHr hS]
  by_cases hok : (0 ≤ a.toInt ∧ a.toInt ≤ 9) ∧ (0 ≤ b.toInt ∧ b.toInt ≤ 9)
  · obtain ⟨a', ha', rfl⟩ := i_of (x := a) (N := 9) hok.1.1 hok.1.2 (by decide)
    obtain ⟨b', hb', rfl⟩ := i_of (x := b) (N := 9) hok.2.1 hok.2.2 (by decide)
    have hPa := eq_true hok.1
    have hPb := eq_true hok.2
    refine ⟨by omega, m_noMachine (by omega) ?_⟩
    simp only [D_X12_road, ↓reduceIte, vcS, vcC, vcI, gtF, ptF, inS, inV, fv0, fv1, fv2, fv3, fw0, fw1, lg_0, lg_1, lg_2, lg_3, lg_4, lg_5, lg_6, lg_7, lg_8, lg_9, lg_10, lg_11, lg_12, lg_13, lg_14, lsq_0, lsl_0, lsq_1, lsl_1, lsq_2, lsl_2, lsq_3, lsl_3, lsq_4, lsl_4, lsq_5, lsl_5, lsq_6, lsl_6, lsq_7, lsl_7, lsq_8, lsl_8, lsq_9, lsl_9, lsq_10, lsl_10, lsq_11, lsl_11, lsq_12, lsl_12, lsq_13, lsl_13, lsq_14, lsl_14, tk_0, tk_1, tk_2, tk_3, tk_4, tk_5, tk_6, tk_7, tk_8, cs_n, cs_i, cs_l, cs_r, cs_u, nl, rt_s, rt_n, CST1, Nat.reduceAdd, Nat.reduceLeDiff, va_rf, rtOk, Bool.false_eq_true, Bool.true_eq_false, if_false, if_true, ite_true, ite_false, true_and, and_true, eq_self, ne_eq, not_false_eq_true, not_true_eq_false, false_implies, true_implies, and_self, reduceCtorEq, Nat.reduceBEq, Bool.or_false, Bool.false_or, Bool.or_true, Bool.true_or, if1_0, if1_1, if1_01, one_01, zer_01, lg_cmp_ge, lg_cmp_le, lg_cmp_gt, lg_cmp_lt, lg_cmp_eq, Classical.not_not, SHm hS, SHr hS, hPa]
    refine ⟨by omega, m_noMachine (by omega) ?_⟩
    by_cases hab : a' = b'
    · have hab' : (nI a' = nI b') = True := eq_true (by rw [hab])
      simp only [D_X12_road, ↓reduceIte, vcS, vcC, vcI, gtF, ptF, inS, inV, fv0, fv1, fv2, fv3, fw0, fw1, lg_0, lg_1, lg_2, lg_3, lg_4, lg_5, lg_6, lg_7, lg_8, lg_9, lg_10, lg_11, lg_12, lg_13, lg_14, lsq_0, lsl_0, lsq_1, lsl_1, lsq_2, lsl_2, lsq_3, lsl_3, lsq_4, lsl_4, lsq_5, lsl_5, lsq_6, lsl_6, lsq_7, lsl_7, lsq_8, lsl_8, lsq_9, lsl_9, lsq_10, lsl_10, lsq_11, lsl_11, lsq_12, lsl_12, lsq_13, lsl_13, lsq_14, lsl_14, tk_0, tk_1, tk_2, tk_3, tk_4, tk_5, tk_6, tk_7, tk_8, cs_n, cs_i, cs_l, cs_r, cs_u, nl, rt_s, rt_n, CST1, Nat.reduceAdd, Nat.reduceLeDiff, va_rf, rtOk, Bool.false_eq_true, Bool.true_eq_false, if_false, if_true, ite_true, ite_false, true_and, and_true, eq_self, ne_eq, not_false_eq_true, not_true_eq_false, false_implies, true_implies, and_self, reduceCtorEq, Nat.reduceBEq, Bool.or_false, Bool.false_or, Bool.or_true, Bool.true_or, if1_0, if1_1, if1_01, one_01, zer_01, lg_cmp_ge, lg_cmp_le, lg_cmp_gt, lg_cmp_lt, lg_cmp_eq, Classical.not_not, SHm hS, SHr hS, hPb, ↓im_T hab', ↓im_TN hab', hab']
      exact hk2 hok (by rw [hab])
    · have hab' : (nI a' = nI b') = False := eq_false (fun z => hab ((nI_eq (by omega) (by omega)).mp z))
      have ea : (nI a').toNatClampNeg = a' := nI_clamp (by omega)
      have va : vp_in (nI a') 10 := vp_in_nI (by omega) (by decide)
      have eb : (nI b').toNatClampNeg = b' := nI_clamp (by omega)
      have vb : vp_in (nI b') 10 := vp_in_nI (by omega) (by decide)
      obtain ⟨x1, x2, x3, x4, x5, x6⟩ := id hM
      have hq : ((sg 49 a' >>> (nI b' &&& 31)) &&& 1 = 1) = (R a' b' = true) := rw_bt (x1 a' (by omega)) (show b' < 10 by omega) (by omega)
      have ei : (nI (10 * a' + b')).toNatClampNeg = 10 * a' + b' := nI_clamp (by omega)
      have vi : vp_in (nI (10 * a' + b')) 100 := vp_in_nI (by omega) (by decide)
      have r1 : ∀ v, s2 sg 49 a' v 49 b' = sg 49 b' := fun v => s2_n (by omega)
      have r2 : ∀ v w, s2 (s2 sg 49 a' v) 49 b' w 50 a' = sg 50 a' := fun v w => by rw [s2_n (by omega), s2_n (by omega)]
      have r3 : ∀ u v w, s2 (s2 (s2 sg 49 a' v) 49 b' w) 50 a' u 50 b' = sg 50 b' := fun u v w => by rw [s2_n (by omega), s2_n (by omega), s2_n (by omega)]
      have r4 : ∀ t u v w, s2 (s2 (s2 (s2 sg 49 a' v) 49 b' w) 50 a' u) 50 b' t 48 7 = sg 48 7 := fun t u v w => by rw [s2_n (by omega), s2_n (by omega), s2_n (by omega), s2_n (by omega)]
      have r5 : ∀ t u v w, s2 (s2 (s2 (s2 sg 49 a' v) 49 b' w) 50 a' u) 50 b' t 51 (10 * a' + b') = sg 51 (10 * a' + b') := fun t u v w => by rw [s2_n (by omega), s2_n (by omega), s2_n (by omega), s2_n (by omega)]
      have hv : ¬ (R a' b' = true ↔ p) → R a' b' = !decide p ∧ R b' a' = !decide p := by
        intro z
        have : R a' b' = !decide p := by
          cases y : R a' b' with
          | true =>
            have : ¬ p := fun u => z ⟨fun _ => u, fun _ => y⟩
            rw [decide_eq_false this]; rfl
          | false =>
            have : p := Classical.byContradiction (fun u => z ⟨fun h => absurd h (by rw [y]; decide), fun h => absurd h u⟩)
            rw [decide_eq_true this]; rfl
        exact ⟨this, by rw [← hN.2.1 a' b' (by omega) (by omega)]; exact this⟩
      simp only [D_X12_road, ↓reduceIte, vcS, vcC, vcI, gtF, ptF, inS, inV, fv0, fv1, fv2, fv3, fw0, fw1, lg_0, lg_1, lg_2, lg_3, lg_4, lg_5, lg_6, lg_7, lg_8, lg_9, lg_10, lg_11, lg_12, lg_13, lg_14, lsq_0, lsl_0, lsq_1, lsl_1, lsq_2, lsl_2, lsq_3, lsl_3, lsq_4, lsl_4, lsq_5, lsl_5, lsq_6, lsl_6, lsq_7, lsl_7, lsq_8, lsl_8, lsq_9, lsl_9, lsq_10, lsl_10, lsq_11, lsl_11, lsq_12, lsl_12, lsq_13, lsl_13, lsq_14, lsl_14, tk_0, tk_1, tk_2, tk_3, tk_4, tk_5, tk_6, tk_7, tk_8, cs_n, cs_i, cs_l, cs_r, cs_u, nl, rt_s, rt_n, CST1, Nat.reduceAdd, Nat.reduceLeDiff, va_rf, rtOk, Bool.false_eq_true, Bool.true_eq_false, if_false, if_true, ite_true, ite_false, true_and, and_true, eq_self, ne_eq, not_false_eq_true, not_true_eq_false, false_implies, true_implies, and_self, reduceCtorEq, Nat.reduceBEq, Bool.or_false, Bool.false_or, Bool.or_true, Bool.true_or, if1_0, if1_1, if1_01, one_01, zer_01, lg_cmp_ge, lg_cmp_le, lg_cmp_gt, lg_cmp_lt, lg_cmp_eq, Classical.not_not, SHm hS, SHr hS, hPb, ↓im_F hab', ↓im_FN hab', hab', ea, va]
      refine ⟨by omega, m_hasBit ?_⟩
      rcases x6 a' b' (by omega) (by omega) with ⟨e, e1, e2, e3⟩ | ⟨e1, e2⟩
      · have h0 : (0 ≤ nI e) = True := nI_ge0 (by have := hN.1; omega)
        simp only [D_X12_road, ↓reduceIte, vcS, vcC, vcI, gtF, ptF, inS, inV, fv0, fv1, fv2, fv3, fw0, fw1, lg_0, lg_1, lg_2, lg_3, lg_4, lg_5, lg_6, lg_7, lg_8, lg_9, lg_10, lg_11, lg_12, lg_13, lg_14, lsq_0, lsl_0, lsq_1, lsl_1, lsq_2, lsl_2, lsq_3, lsl_3, lsq_4, lsl_4, lsq_5, lsl_5, lsq_6, lsl_6, lsq_7, lsl_7, lsq_8, lsl_8, lsq_9, lsl_9, lsq_10, lsl_10, lsq_11, lsl_11, lsq_12, lsl_12, lsq_13, lsl_13, lsq_14, lsl_14, tk_0, tk_1, tk_2, tk_3, tk_4, tk_5, tk_6, tk_7, tk_8, cs_n, cs_i, cs_l, cs_r, cs_u, nl, rt_s, rt_n, CST1, Nat.reduceAdd, Nat.reduceLeDiff, va_rf, rtOk, Bool.false_eq_true, Bool.true_eq_false, if_false, if_true, ite_true, ite_false, true_and, and_true, eq_self, ne_eq, not_false_eq_true, not_true_eq_false, false_implies, true_implies, and_self, reduceCtorEq, Nat.reduceBEq, Bool.or_false, Bool.false_or, Bool.or_true, Bool.true_or, if1_0, if1_1, if1_01, one_01, zer_01, lg_cmp_ge, lg_cmp_le, lg_cmp_gt, lg_cmp_lt, lg_cmp_eq, Classical.not_not, SHm hS, SHr hS, hq, if_if, ea, va, eb, vb, r1, r2, r3, r4, r5, ml10, nI_add, ei, vi, e3, h0]
        refine ⟨fun q3 => ?_, fun q3 => hk3 a' b' (by omega) (by omega) hab rfl rfl q3⟩
        refine hk4 a' b' (by omega) (by omega) hab rfl rfl q3 _ (M_turn hM (by omega) (by omega) hab (hv q3).1 (hv q3).2 (fun x => ?_) (fun x => ?_) (by ((try simp (disch := omega) only [s2_y, s2_n, rg_y, rg_n, fl_y, fl_n]); (try with_reducible rfl); (try assumption))) (fun f => ⟨by ((try simp (disch := omega) only [s2_y, s2_n, rg_y, rg_n, fl_y, fl_n]); (try with_reducible rfl); (try assumption)), by ((try simp (disch := omega) only [s2_y, s2_n, rg_y, rg_n, fl_y, fl_n]); (try with_reducible rfl); (try assumption))⟩) (fun x => by ((try simp (disch := omega) only [s2_y, s2_n, rg_y, rg_n, fl_y, fl_n]); (try with_reducible rfl); (try assumption))) ?_) (fun x k y1 y2 y3 => by ((try simp (disch := omega) only [s2_y, s2_n, rg_y, rg_n, fl_y, fl_n]); (try with_reducible rfl); (try assumption)))
        · by_cases q5 : x = a'
          · rw [if_pos q5, q5]; ((try simp (disch := omega) only [s2_y, s2_n, rg_y, rg_n, fl_y, fl_n]); (try with_reducible rfl); (try assumption))
          · by_cases q6 : x = b'
            · rw [if_neg q5, if_pos q6, q6]; ((try simp (disch := omega) only [s2_y, s2_n, rg_y, rg_n, fl_y, fl_n]); (try with_reducible rfl); (try assumption))
            · rw [if_neg q5, if_neg q6]; ((try simp (disch := omega) only [s2_y, s2_n, rg_y, rg_n, fl_y, fl_n]); (try with_reducible rfl); (try assumption))
        · by_cases q5 : x = a'
          · rw [if_pos q5, q5]; ((try simp (disch := omega) only [s2_y, s2_n, rg_y, rg_n, fl_y, fl_n]); (try with_reducible rfl); (try assumption))
          · by_cases q6 : x = b'
            · rw [if_neg q5, if_pos q6, q6]; ((try simp (disch := omega) only [s2_y, s2_n, rg_y, rg_n, fl_y, fl_n]); (try with_reducible rfl); (try assumption))
            · rw [if_neg q5, if_neg q6]; ((try simp (disch := omega) only [s2_y, s2_n, rg_y, rg_n, fl_y, fl_n]); (try with_reducible rfl); (try assumption))
        · rw [s2_y ⟨rfl, rfl⟩]
          exact rw_cg (rw_an x5 (rw_bit (show e < 8 by have := hN.1; omega) (by omega))) (ofD_y hN e1 e2)
      · simp only [D_X12_road, ↓reduceIte, vcS, vcC, vcI, gtF, ptF, inS, inV, fv0, fv1, fv2, fv3, fw0, fw1, lg_0, lg_1, lg_2, lg_3, lg_4, lg_5, lg_6, lg_7, lg_8, lg_9, lg_10, lg_11, lg_12, lg_13, lg_14, lsq_0, lsl_0, lsq_1, lsl_1, lsq_2, lsl_2, lsq_3, lsl_3, lsq_4, lsl_4, lsq_5, lsl_5, lsq_6, lsl_6, lsq_7, lsl_7, lsq_8, lsl_8, lsq_9, lsl_9, lsq_10, lsl_10, lsq_11, lsl_11, lsq_12, lsl_12, lsq_13, lsl_13, lsq_14, lsl_14, tk_0, tk_1, tk_2, tk_3, tk_4, tk_5, tk_6, tk_7, tk_8, cs_n, cs_i, cs_l, cs_r, cs_u, nl, rt_s, rt_n, CST1, Nat.reduceAdd, Nat.reduceLeDiff, va_rf, rtOk, Bool.false_eq_true, Bool.true_eq_false, if_false, if_true, ite_true, ite_false, true_and, and_true, eq_self, ne_eq, not_false_eq_true, not_true_eq_false, false_implies, true_implies, and_self, reduceCtorEq, Nat.reduceBEq, Bool.or_false, Bool.false_or, Bool.or_true, Bool.true_or, if1_0, if1_1, if1_01, one_01, zer_01, lg_cmp_ge, lg_cmp_le, lg_cmp_gt, lg_cmp_lt, lg_cmp_eq, Classical.not_not, SHm hS, SHr hS, hq, if_if, ea, va, eb, vb, r1, r2, r3, r4, r5, ml10, nI_add, ei, vi, e1, z90]
        refine ⟨fun q3 => ?_, fun q3 => hk3 a' b' (by omega) (by omega) hab rfl rfl q3⟩
        refine hk4 a' b' (by omega) (by omega) hab rfl rfl q3 _ (M_turn hM (by omega) (by omega) hab (hv q3).1 (hv q3).2 (fun x => ?_) (fun x => ?_) (by ((try simp (disch := omega) only [s2_y, s2_n, rg_y, rg_n, fl_y, fl_n]); (try with_reducible rfl); (try assumption))) (fun f => ⟨by ((try simp (disch := omega) only [s2_y, s2_n, rg_y, rg_n, fl_y, fl_n]); (try with_reducible rfl); (try assumption)), by ((try simp (disch := omega) only [s2_y, s2_n, rg_y, rg_n, fl_y, fl_n]); (try with_reducible rfl); (try assumption))⟩) (fun x => by ((try simp (disch := omega) only [s2_y, s2_n, rg_y, rg_n, fl_y, fl_n]); (try with_reducible rfl); (try assumption))) ?_) (fun x k y1 y2 y3 => by ((try simp (disch := omega) only [s2_y, s2_n, rg_y, rg_n, fl_y, fl_n]); (try with_reducible rfl); (try assumption)))
        · by_cases q5 : x = a'
          · rw [if_pos q5, q5]; ((try simp (disch := omega) only [s2_y, s2_n, rg_y, rg_n, fl_y, fl_n]); (try with_reducible rfl); (try assumption))
          · by_cases q6 : x = b'
            · rw [if_neg q5, if_pos q6, q6]; ((try simp (disch := omega) only [s2_y, s2_n, rg_y, rg_n, fl_y, fl_n]); (try with_reducible rfl); (try assumption))
            · rw [if_neg q5, if_neg q6]; ((try simp (disch := omega) only [s2_y, s2_n, rg_y, rg_n, fl_y, fl_n]); (try with_reducible rfl); (try assumption))
        · by_cases q5 : x = a'
          · rw [if_pos q5, q5]; ((try simp (disch := omega) only [s2_y, s2_n, rg_y, rg_n, fl_y, fl_n]); (try with_reducible rfl); (try assumption))
          · by_cases q6 : x = b'
            · rw [if_neg q5, if_pos q6, q6]; ((try simp (disch := omega) only [s2_y, s2_n, rg_y, rg_n, fl_y, fl_n]); (try with_reducible rfl); (try assumption))
            · rw [if_neg q5, if_neg q6]; ((try simp (disch := omega) only [s2_y, s2_n, rg_y, rg_n, fl_y, fl_n]); (try with_reducible rfl); (try assumption))
        · rw [s2_y ⟨rfl, rfl⟩]
          exact rw_m1 (rw_cg x5 (ofD_n hN e2))
  · repeat' (first | (with_reducible assumption) | (refine vp_in_iff.mpr ?_; ((try simp only [i_le, i_lt, i_eq, l_le, l_lt, l_eq, i_ne, l_ne, toL, l_add, l_sub1, LIT1, LIT2, Int.reduceNeg, ge_iff_le, gt_iff_lt] at *); omega)) | (refine And.intro ?_ ?_) | (omega) | (refine m_noMachine (by omega) ?_; simp only [D_X12_road, ↓reduceIte, vcS, vcC, vcI, gtF, ptF, inS, inV, fv0, fv1, fv2, fv3, fw0, fw1, lg_0, lg_1, lg_2, lg_3, lg_4, lg_5, lg_6, lg_7, lg_8, lg_9, lg_10, lg_11, lg_12, lg_13, lg_14, lsq_0, lsl_0, lsq_1, lsl_1, lsq_2, lsl_2, lsq_3, lsl_3, lsq_4, lsl_4, lsq_5, lsl_5, lsq_6, lsl_6, lsq_7, lsl_7, lsq_8, lsl_8, lsq_9, lsl_9, lsq_10, lsl_10, lsq_11, lsl_11, lsq_12, lsl_12, lsq_13, lsl_13, lsq_14, lsl_14, tk_0, tk_1, tk_2, tk_3, tk_4, tk_5, tk_6, tk_7, tk_8, cs_n, cs_i, cs_l, cs_r, cs_u, nl, rt_s, rt_n, CST1, Nat.reduceAdd, Nat.reduceLeDiff, va_rf, rtOk, Bool.false_eq_true, Bool.true_eq_false, if_false, if_true, ite_true, ite_false, true_and, and_true, eq_self, ne_eq, not_false_eq_true, not_true_eq_false, false_implies, true_implies, and_self, reduceCtorEq, Nat.reduceBEq, Bool.or_false, Bool.false_or, Bool.or_true, Bool.true_or, if1_0, if1_1, if1_01, one_01, zer_01, lg_cmp_ge, lg_cmp_le, lg_cmp_gt, lg_cmp_lt, lg_cmp_eq, Classical.not_not, SHm hS, SHr hS]) | (with_reducible intro _))
    all_goals first | (exact hk1 hok) | (exfalso; omega)
set_option maxHeartbeats 4000000 in
set_option maxRecDepth 100000 in
theorem b_road {a b : Int32} {p : Prop} [Decidable p] (hS : Sh mu ro) (hd : 4 ≤ d) (hI : I_nt sg) (hk : ∀ r sg2, I_nt sg2 → Fr [1] sg sg2 → K r sg2) : aCall d 94 [.ref 0, .int a, .int b, .int (if p then 1 else 0)] n mu ro sg (fun r1 sg1 => aCall d 166 [.ref 48, .int a, .int b, .int (if p then 1 else 0)] n mu ro sg1 (fun r2 sg2 => r1 = r2 ∧ K r1 sg2)) := by
  obtain ⟨R, P, D, dA, dB, S, hN, hX, hM⟩ := id hI
  refine c_road hS hd hN hX (fun q => ?_) (fun q q2 => ?_) (fun a' b' ha hb hab ea eb q => ?_) (fun a' b' ha hb hab ea eb q σ h1 h2 => ?_)
  · exact m_road hS hd hN hM (fun _ => ⟨rfl, hk _ _ hI Fr.rfl⟩) (fun z => absurd z q) (fun a' b' g1 g2 _ g3 g4 => absurd ⟨mc9 g1 g3, mc9 g2 g4⟩ q) (fun a' b' g1 g2 _ g3 g4 => absurd ⟨mc9 g1 g3, mc9 g2 g4⟩ q)
  · exact m_road hS hd hN hM (fun z => absurd q z) (fun _ _ => ⟨rfl, hk _ _ hI Fr.rfl⟩) (fun a' b' g1 g2 g5 g3 g4 => absurd (nI_inj (by omega) (by omega) g3 (by rw [q2]; exact g4)) g5) (fun a' b' g1 g2 g5 g3 g4 => absurd (nI_inj (by omega) (by omega) g3 (by rw [q2]; exact g4)) g5)
  · refine m_road hS hd hN hM (fun z => absurd ⟨mc9 ha ea, mc9 hb eb⟩ z) (fun _ z => absurd (nI_inj (by omega) (by omega) ea (by rw [z]; exact eb)) hab) (fun _ _ _ _ _ _ _ _ => ⟨rfl, hk _ _ hI Fr.rfl⟩) (fun a2 b2 g1 g2 g5 g3 g4 g6 => ?_)
    have z1 : a' = a2 := nI_inj (by omega) (by omega) ea g3
    have z2 : b' = b2 := nI_inj (by omega) (by omega) eb g4
    subst z1 z2
    exact absurd q g6
  · have hM' : M_nt σ R P D dA dB S := by
      obtain ⟨x1, x2, x3, x4, x5, x6⟩ := hM
      have o : ∀ x, x ≠ 1 → x ≠ 2 → x ≠ 3 → σ x = sg x := fun x y1 y2 y3 => funext (fun k => h2 x k y1 y2 y3)
      unfold M_nt
      rw [o 49 (by decide) (by decide) (by decide), o 50 (by decide) (by decide) (by decide), o 48 (by decide) (by decide) (by decide), o 51 (by decide) (by decide) (by decide), o 52 (by decide) (by decide) (by decide), o 53 (by decide) (by decide) (by decide)]
      exact ⟨x1, x2, x3, x4, x5, x6⟩
    refine m_road hS hd hN hM' (fun z => absurd ⟨mc9 ha ea, mc9 hb eb⟩ z) (fun _ z => absurd (nI_inj (by omega) (by omega) ea (by rw [z]; exact eb)) hab) (fun a2 b2 g1 g2 g5 g3 g4 g6 => ?_) (fun a2 b2 g1 g2 g5 g3 g4 g6 σ2 g7 g8 => ?_)
    · have z1 : a' = a2 := nI_inj (by omega) (by omega) ea g3
      have z2 : b' = b2 := nI_inj (by omega) (by omega) eb g4
      subst z1 z2
      exact absurd g6 q
    · have z1 : a' = a2 := nI_inj (by omega) (by omega) ea g3
      have z2 : b' = b2 := nI_inj (by omega) (by omega) eb g4
      subst z1 z2
      refine ⟨rfl, hk _ _ ⟨_, _, _, _, _, _, hN.road hab, ?_, g7⟩ (fun x k y1 y2 => ?_)⟩
      · obtain ⟨x1, x2, x3, x4, x5, x6⟩ := h1
        have o : ∀ x, x ≠ 49 → x ≠ 50 → x ≠ 48 → σ2 x = σ x := fun x y1 y2 y3 => funext (fun k => g8 x k y1 y2 (by omega))
        unfold C_nt
        rw [o 1 (by decide) (by decide) (by decide), o 2 (by decide) (by decide) (by decide), o 3 (by decide) (by decide) (by decide), o 4 (by decide) (by decide) (by decide), o 5 (by decide) (by decide) (by decide)]
        exact ⟨x1, x2, x3, x4, x5, x6⟩
      · have a1 : x ≠ 49 := by rintro rfl; exact y1 (List.mem_singleton.mpr rfl)
        have a2 : x ≠ 50 := by rintro rfl; exact y1 (List.mem_singleton.mpr rfl)
        have a3 : x ≠ 2 := by rintro rfl; exact y1 (List.mem_singleton.mpr rfl)
        have a4 : x ≠ 3 := by rintro rfl; exact y1 (List.mem_singleton.mpr rfl)
        have a5 : ¬ (x = 48 ∧ k = 7) := by rintro ⟨rfl, rfl⟩; exact y1 (List.mem_singleton.mpr rfl)
        rw [g8 x k a1 a2 a5]
        by_cases a6 : x = 1
        · subst a6
          exfalso
          by_cases q7 : k = 7
          · subst q7; exact y2 rfl
          · refine y1 ?_
            unfold reg
            simp [q7, regL]
        · exact h2 x k a6 a3 a4
end H43
