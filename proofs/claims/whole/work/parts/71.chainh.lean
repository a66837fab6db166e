/-! part 71: chains: the reference goes along one -/
section H71
variable {d n N T Q F : Nat} {mu : aM} {ro : aR} {sg σ : aS} {K : Option Value → aS → Prop} {rw_ vd mc tk lk : Nat → Int32} {ft : Nat → Nat}
theorem s2l_r {s : aS} {x : Int64} : jl (s2l s 48 29 x 48 129) (s2l s 48 29 x 48 229) = x := by
  rw [s2l_eq]
  show jl (upd (upd (s 48) 129 (jlo x)) 229 (jhi x) 129) (upd (upd (s 48) 129 (jlo x)) 229 (jhi x) 229) = x
  rw [pk_un (by decide), pk_us, pk_us]
  exact jl_eq x
theorem s2l_o {s : aS} {x : Int64} {a k : Nat} (h : ¬ (a = 48 ∧ (k = 129 ∨ k = 229))) : s2l s 48 29 x a k = s a k := by
  by_cases e : a = 48
  · subst e
    rw [s2l_eq]
    show upd (upd (s 48) 129 (jlo x)) 229 (jhi x) k = _
    rw [pk_un (by omega), pk_un (by omega)]
  · rw [s2l_ne e]
theorem M_ch.o {s s' : aS} (h : M_ch s F rw_ vd mc tk ft) (hf : ∀ a k, ¬ (a = 48 ∧ (k = 129 ∨ k = 229)) → s' a k = s a k) : M_ch s' F rw_ vd mc tk ft := by
  obtain ⟨h1, h2, h3⟩ := h
  have e : ∀ a, a ≠ 48 → s' a = s a := fun a ha => funext (fun k => hf a k (by omega))
  refine ⟨by rw [hf 48 21 (by omega)]; exact h1, h2, fun f hf9 => ?_⟩
  rw [e 65 (by decide), e 66 (by decide), e 56 (by decide), e 67 (by decide), e 68 (by decide)]
  exact h3 f hf9
set_option maxHeartbeats 4000000 in
set_option maxRecDepth 100000 in
theorem m_hasFrom {st z : Nat} {sp : Int32} (hS : Sh mu ro) (hd : 1 ≤ d) (hM : M_ch sg F rw_ vd mc tk ft) (hst : st < F) (hz : sg 48 26 = nI z) (hz2 : 1 ≤ z ∧ z ≤ 5) (hl : ∀ c, c < z → sg 69 c = lk c) (hsp : sg 48 28 = sp) (hk : ∀ σ, (∀ a k, ¬ (a = 48 ∧ (k = 129 ∨ k = 229)) → σ a k = sg a k) → K (some (.int (if chB rw_ vd mc tk lk F z sp st = true then 1 else 0))) σ) : aCall d 198 [.ref 48, .int (mc st), .int (nI st)] n mu ro sg K := by
  obtain ⟨hF, hF2, hf⟩ := id hM
  have es : (nI st).toNatClampNeg = st := nI_clamp (by omega)
  have vs : vp_in (nI st) 40 := vp_in_nI (by omega) (by decide)
  have s5 := (hf st hst).2.2.2.2.1
  unfold chB at hk
  refine aCall_start (mL := 6) (cc := cX12_hasFrom) (o := 12) (ret := (some .boolean)) 3 (by decide) (by decide +kernel) rfl rfl rfl rfl (Nat.le_of_ble_eq_true rfl) (fun G hC hG => ?_)
  simp only [exL, List.cons_append, List.nil_append, rp_0, rp_1, rp_2, rp_3, rp_4, rp_5, rp_6, rp_7, rp_8, rp_9, rp_10, rp_11, List.append_nil]
  have lo : ∀ (j c : Nat) (u : Int64) (t : Int32) (σ : aS) (v5 : Value), c + j = z → 1 ≤ c → (∀ a k, ¬ (a = 48 ∧ (k = 129 ∨ k = 229)) → σ a k = sg a k) → jl (σ 48 129) (σ 48 229) = u → chF rw_ vd mc tk lk F (mc st) (z - 1) 1 (1 <<< ((nI st).toInt64 &&& 63)) (tk st) = chF rw_ vd mc tk lk F (mc st) j c u t → AW G 6 n 0 0 mu ro σ 17 [.ref 48, .int (mc st), .int (nI st), .int t, .int (nI c), v5] [] := by
    intro j
    induction j with
    | zero =>
      intro c u t σ v5 hc hc1 hF9 hu he
      have hq : (nI z ≤ nI c) = True := eq_true (nI_le (by omega) (by omega))
      have r26 : σ 48 26 = nI z := by rw [hF9 48 26 (by omega)]; exact hz
      have r28 : σ 48 28 = sp := by rw [hF9 48 28 (by omega)]; exact hsp
      have r67 : σ 67 st = tk st := by rw [hF9 67 st (by omega)]; exact s5
      have hk3 := hk σ hF9
      rw [he, chF] at hk3
      simp only [Bool.not_eq_true', decide_eq_false_iff_not] at hk3
      refine hG (fun q => q == 17) 80 _ _ _ _ (Nat.le_of_ble_eq_true rfl) ?_
      simp only [D_X12_hasFrom, N_X12_hasFrom, ↓reduceIte, vcS, vcC, vcI, gtF, ptF, inS, inV, fv0, fv1, fv2, fv3, fw0, fw1, lg_0, lg_1, lg_2, lg_3, lg_4, lg_5, lg_6, lg_7, lg_8, lg_9, lg_10, lg_11, lg_12, lg_13, lg_14, lsq_0, lsl_0, lsq_1, lsl_1, lsq_2, lsl_2, lsq_3, lsl_3, lsq_4, lsl_4, lsq_5, lsl_5, lsq_6, lsl_6, lsq_7, lsl_7, lsq_8, lsl_8, lsq_9, lsl_9, lsq_10, lsl_10, lsq_11, lsl_11, lsq_12, lsl_12, lsq_13, lsl_13, lsq_14, lsl_14, tk_0, tk_1, tk_2, tk_3, tk_4, tk_5, tk_6, tk_7, tk_8, cs_n, cs_i, cs_l, cs_r, cs_u, nl, rt_s, rt_n, CST1, Nat.reduceAdd, Nat.reduceLeDiff, va_rf, rtOk, Bool.false_eq_true, Bool.true_eq_false, if_false, if_true, ite_true, ite_false, true_and, and_true, eq_self, ne_eq, not_false_eq_true, not_true_eq_false, false_implies, true_implies, and_self, reduceCtorEq, Nat.reduceBEq, Bool.or_false, Bool.false_or, Bool.or_true, Bool.true_or, if1_0, if1_1, if1_01, one_01, zer_01, lg_cmp_ge, lg_cmp_le, lg_cmp_gt, lg_cmp_lt, lg_cmp_eq, Classical.not_not, SHm hS, SHr hS, r26, ↓im_T hq, ↓im_TN hq, hq, es, vs, r67, r28]
      refine ⟨fun g => ?_, fun g => ?_⟩
      · rw [if_neg (not_not_intro g)] at hk3; exact hk3
      · rw [if_pos g] at hk3; exact hk3
    | succ j ih =>
      intro c u t σ v5 hc hc1 hF9 hu he
      have hq : (nI z ≤ nI c) = False := eq_false (nI_ge (by omega) (by omega))
      have r26 : σ 48 26 = nI z := by rw [hF9 48 26 (by omega)]; exact hz
      have ec : (nI c).toNatClampNeg = c := nI_clamp (by omega)
      have vc : vp_in (nI c) 5 := vp_in_nI (by omega) (by decide)
      have lc : σ 69 c = lk c := by rw [hF9 69 c (by omega)]; exact hl c (by omega)
      have hMs := hM.o hF9
      refine hG (fun q => q == 17) 80 _ _ _ _ (Nat.le_of_ble_eq_true rfl) ?_
      simp only [D_X12_hasFrom, N_X12_hasFrom, ↓reduceIte, vcS, vcC, vcI, gtF, ptF, inS, inV, fv0, fv1, fv2, fv3, fw0, fw1, lg_0, lg_1, lg_2, lg_3, lg_4, lg_5, lg_6, lg_7, lg_8, lg_9, lg_10, lg_11, lg_12, lg_13, lg_14, lsq_0, lsl_0, lsq_1, lsl_1, lsq_2, lsl_2, lsq_3, lsl_3, lsq_4, lsl_4, lsq_5, lsl_5, lsq_6, lsl_6, lsq_7, lsl_7, lsq_8, lsl_8, lsq_9, lsl_9, lsq_10, lsl_10, lsq_11, lsl_11, lsq_12, lsl_12, lsq_13, lsl_13, lsq_14, lsl_14, tk_0, tk_1, tk_2, tk_3, tk_4, tk_5, tk_6, tk_7, tk_8, cs_n, cs_i, cs_l, cs_r, cs_u, nl, rt_s, rt_n, CST1, Nat.reduceAdd, Nat.reduceLeDiff, va_rf, rtOk, Bool.false_eq_true, Bool.true_eq_false, if_false, if_true, ite_true, ite_false, true_and, and_true, eq_self, ne_eq, not_false_eq_true, not_true_eq_false, false_implies, true_implies, and_self, reduceCtorEq, Nat.reduceBEq, Bool.or_false, Bool.false_or, Bool.or_true, Bool.true_or, if1_0, if1_1, if1_01, one_01, zer_01, lg_cmp_ge, lg_cmp_le, lg_cmp_gt, lg_cmp_lt, lg_cmp_eq, Classical.not_not, SHm hS, SHr hS, r26, ↓im_F hq, ↓im_FN hq, hq, ec, vc, lc]
      refine ⟨hd, m_findAfter hS hMs hu ?_⟩
      cases e : erF rw_ vd mc tk (lk c) (mc st) t u F with
      | none =>
        have hk3 := hk σ hF9
        rw [ch_0 e] at he
        rw [he] at hk3
        have z9 : (0 ≤ erB none) = False := eq_false (by decide)
        simp only [D_X12_hasFrom, N_X12_hasFrom, ↓reduceIte, vcS, vcC, vcI, gtF, ptF, inS, inV, fv0, fv1, fv2, fv3, fw0, fw1, lg_0, lg_1, lg_2, lg_3, lg_4, lg_5, lg_6, lg_7, lg_8, lg_9, lg_10, lg_11, lg_12, lg_13, lg_14, lsq_0, lsl_0, lsq_1, lsl_1, lsq_2, lsl_2, lsq_3, lsl_3, lsq_4, lsl_4, lsq_5, lsl_5, lsq_6, lsl_6, lsq_7, lsl_7, lsq_8, lsl_8, lsq_9, lsl_9, lsq_10, lsl_10, lsq_11, lsl_11, lsq_12, lsl_12, lsq_13, lsl_13, lsq_14, lsl_14, tk_0, tk_1, tk_2, tk_3, tk_4, tk_5, tk_6, tk_7, tk_8, cs_n, cs_i, cs_l, cs_r, cs_u, nl, rt_s, rt_n, CST1, Nat.reduceAdd, Nat.reduceLeDiff, va_rf, rtOk, Bool.false_eq_true, Bool.true_eq_false, if_false, if_true, ite_true, ite_false, true_and, and_true, eq_self, ne_eq, not_false_eq_true, not_true_eq_false, false_implies, true_implies, and_self, reduceCtorEq, Nat.reduceBEq, Bool.or_false, Bool.false_or, Bool.or_true, Bool.true_or, if1_0, if1_1, if1_01, one_01, zer_01, lg_cmp_ge, lg_cmp_le, lg_cmp_gt, lg_cmp_lt, lg_cmp_eq, Classical.not_not, SHm hS, SHr hS, z9]
        simp only [Bool.false_eq_true, if_false] at hk3
        exact hk3
      | some f =>
        rw [ch_s e] at he
        have hf9 := er_lt F f e
        have ef : (nI f).toNatClampNeg = f := nI_clamp (by omega)
        have vf : vp_in (nI f) 40 := vp_in_nI (by omega) (by decide)
        have e2 : erB (some f) = nI f := rfl
        have z9 : (0 ≤ nI f) = True := nI_ge0 (by omega)
        have g3 : ∀ y, s2l σ 48 29 y 67 f = tk f := fun y => by rw [s2l_o (by omega), hF9 67 f (by omega)]; exact (hf f hf9).2.2.2.2.1
        rw [e2]
        simp only [D_X12_hasFrom, N_X12_hasFrom, ↓reduceIte, vcS, vcC, vcI, gtF, ptF, inS, inV, fv0, fv1, fv2, fv3, fw0, fw1, lg_0, lg_1, lg_2, lg_3, lg_4, lg_5, lg_6, lg_7, lg_8, lg_9, lg_10, lg_11, lg_12, lg_13, lg_14, lsq_0, lsl_0, lsq_1, lsl_1, lsq_2, lsl_2, lsq_3, lsl_3, lsq_4, lsl_4, lsq_5, lsl_5, lsq_6, lsl_6, lsq_7, lsl_7, lsq_8, lsl_8, lsq_9, lsl_9, lsq_10, lsl_10, lsq_11, lsl_11, lsq_12, lsl_12, lsq_13, lsl_13, lsq_14, lsl_14, tk_0, tk_1, tk_2, tk_3, tk_4, tk_5, tk_6, tk_7, tk_8, cs_n, cs_i, cs_l, cs_r, cs_u, nl, rt_s, rt_n, CST1, Nat.reduceAdd, Nat.reduceLeDiff, va_rf, rtOk, Bool.false_eq_true, Bool.true_eq_false, if_false, if_true, ite_true, ite_false, true_and, and_true, eq_self, ne_eq, not_false_eq_true, not_true_eq_false, false_implies, true_implies, and_self, reduceCtorEq, Nat.reduceBEq, Bool.or_false, Bool.false_or, Bool.or_true, Bool.true_or, if1_0, if1_1, if1_01, one_01, zer_01, lg_cmp_ge, lg_cmp_le, lg_cmp_gt, lg_cmp_lt, lg_cmp_eq, Classical.not_not, SHm hS, SHr hS, z9, ptL, hu, ef, vf, g3, nI_1]
        exact ih (c + 1) _ _ _ _ (by omega) (by omega) (fun a k h => by rw [s2l_o h]; exact hF9 a k h) s2l_r he
  have g5 : ∀ y, s2l sg 48 29 y 67 st = tk st := fun y => by rw [s2l_o (by omega)]; exact s5
  refine hG (fun q => q == 17) 80 _ _ _ _ (Nat.le_of_ble_eq_true rfl) ?_
  simp only [D_X12_hasFrom, N_X12_hasFrom, ↓reduceIte, vcS, vcC, vcI, gtF, ptF, inS, inV, fv0, fv1, fv2, fv3, fw0, fw1, lg_0, lg_1, lg_2, lg_3, lg_4, lg_5, lg_6, lg_7, lg_8, lg_9, lg_10, lg_11, lg_12, lg_13, lg_14, lsq_0, lsl_0, lsq_1, lsl_1, lsq_2, lsl_2, lsq_3, lsl_3, lsq_4, lsl_4, lsq_5, lsl_5, lsq_6, lsl_6, lsq_7, lsl_7, lsq_8, lsl_8, lsq_9, lsl_9, lsq_10, lsl_10, lsq_11, lsl_11, lsq_12, lsl_12, lsq_13, lsl_13, lsq_14, lsl_14, tk_0, tk_1, tk_2, tk_3, tk_4, tk_5, tk_6, tk_7, tk_8, cs_n, cs_i, cs_l, cs_r, cs_u, nl, rt_s, rt_n, CST1, Nat.reduceAdd, Nat.reduceLeDiff, va_rf, rtOk, Bool.false_eq_true, Bool.true_eq_false, if_false, if_true, ite_true, ite_false, true_and, and_true, eq_self, ne_eq, not_false_eq_true, not_true_eq_false, false_implies, true_implies, and_self, reduceCtorEq, Nat.reduceBEq, Bool.or_false, Bool.false_or, Bool.or_true, Bool.true_or, if1_0, if1_1, if1_01, one_01, zer_01, lg_cmp_ge, lg_cmp_le, lg_cmp_gt, lg_cmp_lt, lg_cmp_eq, Classical.not_not, SHm hS, SHr hS, ptL, es, vs, g5]
  exact lo (z - 1) 1 _ _ _ _ (by omega) (by omega) (fun a k h => s2l_o h) s2l_r rfl
end H71
