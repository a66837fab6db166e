/-! part 69: chains: the earliest finding that fits -/
section H69
variable {d n N T Q F : Nat} {mu : aM} {ro : aR} {sg σ : aS} {K : Option Value → aS → Prop} {rw_ vd mc tk lk : Nat → Int32}
abbrev frO (u : Int64) (f : Nat) : Prop := (u >>> ((nI f).toInt64 &&& 63)) &&& 1 = 0
abbrev erC (rw_ vd mc tk : Nat → Int32) (r m t : Int32) (u : Int64) (f : Nat) : Prop := frO u f ∧ ¬ vd f = 1 ∧ rw_ f = r ∧ mc f = m ∧ ¬ tk f < t
def erF (rw_ vd mc tk : Nat → Int32) (r m t : Int32) (u : Int64) : Nat → Option Nat
  | 0 => none
  | f + 1 => if erC rw_ vd mc tk r m t u f then (match erF rw_ vd mc tk r m t u f with
    | none => some f
    | some b => if tk b ≤ tk f then some b else some f) else erF rw_ vd mc tk r m t u f
def erB (o : Option Nat) : Int32 := match o with
  | none => -9
  | some b => nI b
theorem er_lt {r m t : Int32} {u : Int64} : ∀ f b, erF rw_ vd mc tk r m t u f = some b → b < f
  | 0, _, h => absurd h (by simp [erF])
  | f + 1, b, h => by
    rw [erF] at h
    by_cases q : erC rw_ vd mc tk r m t u f
    · rw [if_pos q] at h
      cases e : erF rw_ vd mc tk r m t u f with
      | none => rw [e] at h; have := Option.some.inj h; omega
      | some b' =>
        have hb := er_lt f b' e
        rw [e] at h
        simp only at h
        by_cases q2 : tk b' ≤ tk f
        · rw [if_pos q2] at h; have := Option.some.inj h; omega
        · rw [if_neg q2] at h; have := Option.some.inj h; omega
    · rw [if_neg q] at h
      have := er_lt f b h
      omega
theorem er_n {r m t : Int32} {u : Int64} {f : Nat} (h : ¬ erC rw_ vd mc tk r m t u f) : erF rw_ vd mc tk r m t u (f + 1) = erF rw_ vd mc tk r m t u f := by rw [erF, if_neg h]
theorem er_0 {r m t : Int32} {u : Int64} {f : Nat} (h : erC rw_ vd mc tk r m t u f) (e : erF rw_ vd mc tk r m t u f = none) : erF rw_ vd mc tk r m t u (f + 1) = some f := by rw [erF, if_pos h, e]
theorem er_s {r m t : Int32} {u : Int64} {f b : Nat} (h : erC rw_ vd mc tk r m t u f) (e : erF rw_ vd mc tk r m t u f = some b) : erF rw_ vd mc tk r m t u (f + 1) = if tk b ≤ tk f then some b else some f := by rw [erF, if_pos h, e]
set_option maxHeartbeats 4000000 in
set_option maxRecDepth 100000 in
theorem c_earliest {r m t : Int32} {u : Int64} (hS : Sh mu ro) (hF : sg 15 5 = nI F) (hF2 : F ≤ 40) (hf : ∀ f, f < F → sg 16 f = rw_ f ∧ sg 18 f = mc f ∧ sg 19 f = tk f ∧ sg 20 f = vd f) (hk : K (some (.int (erB (erF rw_ vd mc tk r m t u F)))) sg) : aCall d 9 [.ref 15, .int r, .int m, .int t, .long u] n mu ro sg K := by
  refine aCall_start (mL := 10) (cc := cX1_earliest) (o := 1) (ret := (some .int)) 4 (by decide) (by decide +kernel) rfl rfl rfl rfl (Nat.le_of_ble_eq_true rfl) (fun G hC hG => ?_)
  simp only [exL, List.cons_append, List.nil_append, rp_0, rp_1, rp_2, rp_3, rp_4, rp_5, rp_6, rp_7, rp_8, rp_9, rp_10, rp_11, List.append_nil]
  have lo : ∀ (mm f : Nat) (v8 v9 : Value), f + mm = F → AW G 10 n 0 0 mu ro sg 7 [.ref 15, .int r, .int m, .int t, .long u, .float 0, .int (erB (erF rw_ vd mc tk r m t u f)), .int (nI f), v8, v9] [] := by
    intro mm
    induction mm with
    | zero =>
      intro f v8 v9 hi
      have hc : (nI F ≤ nI f) = True := eq_true (nI_le (by omega) (by omega))
      have : f = F := by omega
      subst this
      refine hG (fun q => q == 7) 80 _ _ _ _ (Nat.le_of_ble_eq_true rfl) ?_
      simp only [D_X1_earliest, ↓reduceIte, vcS, vcC, vcI, gtF, ptF, inS, inV, fv0, fv1, fv2, fv3, fw0, fw1, lg_0, lg_1, lg_2, lg_3, lg_4, lg_5, lg_6, lg_7, lg_8, lg_9, lg_10, lg_11, lg_12, lg_13, lg_14, lsq_0, lsl_0, lsq_1, lsl_1, lsq_2, lsl_2, lsq_3, lsl_3, lsq_4, lsl_4, lsq_5, lsl_5, lsq_6, lsl_6, lsq_7, lsl_7, lsq_8, lsl_8, lsq_9, lsl_9, lsq_10, lsl_10, lsq_11, lsl_11, lsq_12, lsl_12, lsq_13, lsl_13, lsq_14, lsl_14, tk_0, tk_1, tk_2, tk_3, tk_4, tk_5, tk_6, tk_7, tk_8, cs_n, cs_i, cs_l, cs_r, cs_u, nl, rt_s, rt_n, CST1, Nat.reduceAdd, Nat.reduceLeDiff, va_rf, rtOk, Bool.false_eq_true, Bool.true_eq_false, if_false, if_true, ite_true, ite_false, true_and, and_true, eq_self, ne_eq, not_false_eq_true, not_true_eq_false, false_implies, true_implies, and_self, reduceCtorEq, Nat.reduceBEq, Bool.or_false, Bool.false_or, Bool.or_true, Bool.true_or, if1_0, if1_1, if1_01, one_01, zer_01, lg_cmp_ge, lg_cmp_le, lg_cmp_gt, lg_cmp_lt, lg_cmp_eq, Classical.not_not, SHm hS, SHr hS, hF, ↓im_T hc, ↓im_TN hc, hc]
      exact hk
    | succ mm ih =>
      intro f v8 v9 hi
      have hc : (nI F ≤ nI f) = False := eq_false (nI_ge (by omega) (by omega))
      have ei : (nI f).toNatClampNeg = f := nI_clamp (by omega)
      have vi : vp_in (nI f) 40 := vp_in_nI (by omega) (by decide)
      obtain ⟨f1, f2, f3, f4⟩ := hf f (by omega)
      by_cases q : erC rw_ vd mc tk r m t u f
      · obtain ⟨a1, a2, a3, a4, a5⟩ := id q
        have b1 := eq_true a1
        have b2 := eq_false a2
        have b3 := eq_true a3
        have b4 := eq_true a4
        have b5 := eq_false a5
        cases e : erF rw_ vd mc tk r m t u f with
        | none =>
          have n1 := fun v8 v9 => ih (f + 1) v8 v9 (by omega)
          rw [er_0 q e] at n1
          have z9 : (erB none = -9) = True := eq_true rfl
          refine hG (fun q => q == 7) 80 _ _ _ _ (Nat.le_of_ble_eq_true rfl) ?_
          simp only [D_X1_earliest, ↓reduceIte, vcS, vcC, vcI, gtF, ptF, inS, inV, fv0, fv1, fv2, fv3, fw0, fw1, lg_0, lg_1, lg_2, lg_3, lg_4, lg_5, lg_6, lg_7, lg_8, lg_9, lg_10, lg_11, lg_12, lg_13, lg_14, lsq_0, lsl_0, lsq_1, lsl_1, lsq_2, lsl_2, lsq_3, lsl_3, lsq_4, lsl_4, lsq_5, lsl_5, lsq_6, lsl_6, lsq_7, lsl_7, lsq_8, lsl_8, lsq_9, lsl_9, lsq_10, lsl_10, lsq_11, lsl_11, lsq_12, lsl_12, lsq_13, lsl_13, lsq_14, lsl_14, tk_0, tk_1, tk_2, tk_3, tk_4, tk_5, tk_6, tk_7, tk_8, cs_n, cs_i, cs_l, cs_r, cs_u, nl, rt_s, rt_n, CST1, Nat.reduceAdd, Nat.reduceLeDiff, va_rf, rtOk, Bool.false_eq_true, Bool.true_eq_false, if_false, if_true, ite_true, ite_false, true_and, and_true, eq_self, ne_eq, not_false_eq_true, not_true_eq_false, false_implies, true_implies, and_self, reduceCtorEq, Nat.reduceBEq, Bool.or_false, Bool.false_or, Bool.or_true, Bool.true_or, if1_0, if1_1, if1_01, one_01, zer_01, lg_cmp_ge, lg_cmp_le, lg_cmp_gt, lg_cmp_lt, lg_cmp_eq, Classical.not_not, SHm hS, SHr hS, hF, ↓im_F hc, ↓im_FN hc, hc, ei, vi, f1, f2, f3, f4, b1, b2, b3, b4, b5, z10, z9, nI_1]
          exact n1 _ _
        | some b =>
          have n1 := fun v8 v9 => ih (f + 1) v8 v9 (by omega)
          rw [er_s q e] at n1
          have hb := er_lt f b e
          have eb : (nI b).toNatClampNeg = b := nI_clamp (by omega)
          have vb : vp_in (nI b) 40 := vp_in_nI (by omega) (by decide)
          have e2 : erB (some b) = nI b := rfl
          have z9 : (nI b = -9) = False := nI_n9 (by omega)
          have g3 := (hf b (by omega)).2.2.1
          rw [e2]
          refine hG (fun q => q == 7) 80 _ _ _ _ (Nat.le_of_ble_eq_true rfl) ?_
          simp only [D_X1_earliest, ↓reduceIte, vcS, vcC, vcI, gtF, ptF, inS, inV, fv0, fv1, fv2, fv3, fw0, fw1, lg_0, lg_1, lg_2, lg_3, lg_4, lg_5, lg_6, lg_7, lg_8, lg_9, lg_10, lg_11, lg_12, lg_13, lg_14, lsq_0, lsl_0, lsq_1, lsl_1, lsq_2, lsl_2, lsq_3, lsl_3, lsq_4, lsl_4, lsq_5, lsl_5, lsq_6, lsl_6, lsq_7, lsl_7, lsq_8, lsl_8, lsq_9, lsl_9, lsq_10, lsl_10, lsq_11, lsl_11, lsq_12, lsl_12, lsq_13, lsl_13, lsq_14, lsl_14, tk_0, tk_1, tk_2, tk_3, tk_4, tk_5, tk_6, tk_7, tk_8, cs_n, cs_i, cs_l, cs_r, cs_u, nl, rt_s, rt_n, CST1, Nat.reduceAdd, Nat.reduceLeDiff, va_rf, rtOk, Bool.false_eq_true, Bool.true_eq_false, if_false, if_true, ite_true, ite_false, true_and, and_true, eq_self, ne_eq, not_false_eq_true, not_true_eq_false, false_implies, true_implies, and_self, reduceCtorEq, Nat.reduceBEq, Bool.or_false, Bool.false_or, Bool.or_true, Bool.true_or, if1_0, if1_1, if1_01, one_01, zer_01, lg_cmp_ge, lg_cmp_le, lg_cmp_gt, lg_cmp_lt, lg_cmp_eq, Classical.not_not, SHm hS, SHr hS, hF, ↓im_F hc, ↓im_FN hc, hc, ei, vi, f1, f2, f3, f4, b1, b2, b3, b4, b5, z10, z9, eb, vb, g3, nI_1]
          refine ⟨fun g => ?_, fun g => ?_⟩
          · rw [if_pos g] at n1; exact n1 _ _
          · rw [if_neg g] at n1; exact n1 _ _
      · have n1 := fun v8 v9 => ih (f + 1) v8 v9 (by omega)
        rw [er_n q] at n1
        by_cases a1 : frO u f <;> by_cases a2 : vd f = 1 <;> by_cases a3 : rw_ f = r <;> by_cases a4 : mc f = m <;> by_cases a5 : tk f < t
        all_goals try (exfalso; refine q ⟨?_, ?_, ?_, ?_, ?_⟩ <;> assumption)
        all_goals
          refine hG (fun q => q == 7) 80 _ _ _ _ (Nat.le_of_ble_eq_true rfl) ?_
          simp only [D_X1_earliest, ↓reduceIte, vcS, vcC, vcI, gtF, ptF, inS, inV, fv0, fv1, fv2, fv3, fw0, fw1, lg_0, lg_1, lg_2, lg_3, lg_4, lg_5, lg_6, lg_7, lg_8, lg_9, lg_10, lg_11, lg_12, lg_13, lg_14, lsq_0, lsl_0, lsq_1, lsl_1, lsq_2, lsl_2, lsq_3, lsl_3, lsq_4, lsl_4, lsq_5, lsl_5, lsq_6, lsl_6, lsq_7, lsl_7, lsq_8, lsl_8, lsq_9, lsl_9, lsq_10, lsl_10, lsq_11, lsl_11, lsq_12, lsl_12, lsq_13, lsl_13, lsq_14, lsl_14, tk_0, tk_1, tk_2, tk_3, tk_4, tk_5, tk_6, tk_7, tk_8, cs_n, cs_i, cs_l, cs_r, cs_u, nl, rt_s, rt_n, CST1, Nat.reduceAdd, Nat.reduceLeDiff, va_rf, rtOk, Bool.false_eq_true, Bool.true_eq_false, if_false, if_true, ite_true, ite_false, true_and, and_true, eq_self, ne_eq, not_false_eq_true, not_true_eq_false, false_implies, true_implies, and_self, reduceCtorEq, Nat.reduceBEq, Bool.or_false, Bool.false_or, Bool.or_true, Bool.true_or, if1_0, if1_1, if1_01, one_01, zer_01, lg_cmp_ge, lg_cmp_le, lg_cmp_gt, lg_cmp_lt, lg_cmp_eq, Classical.not_not, SHm hS, SHr hS, hF, ↓im_F hc, ↓im_FN hc, hc, ei, vi, f1, f2, f3, f4, a1, a2, a3, a4, a5, z10, nI_1]
          exact n1 _ _
  refine hG (fun q => q == 7) 80 _ _ _ _ (Nat.le_of_ble_eq_true rfl) ?_
  simp only [D_X1_earliest, ↓reduceIte, vcS, vcC, vcI, gtF, ptF, inS, inV, fv0, fv1, fv2, fv3, fw0, fw1, lg_0, lg_1, lg_2, lg_3, lg_4, lg_5, lg_6, lg_7, lg_8, lg_9, lg_10, lg_11, lg_12, lg_13, lg_14, lsq_0, lsl_0, lsq_1, lsl_1, lsq_2, lsl_2, lsq_3, lsl_3, lsq_4, lsl_4, lsq_5, lsl_5, lsq_6, lsl_6, lsq_7, lsl_7, lsq_8, lsl_8, lsq_9, lsl_9, lsq_10, lsl_10, lsq_11, lsl_11, lsq_12, lsl_12, lsq_13, lsl_13, lsq_14, lsl_14, tk_0, tk_1, tk_2, tk_3, tk_4, tk_5, tk_6, tk_7, tk_8, cs_n, cs_i, cs_l, cs_r, cs_u, nl, rt_s, rt_n, CST1, Nat.reduceAdd, Nat.reduceLeDiff, va_rf, rtOk, Bool.false_eq_true, Bool.true_eq_false, if_false, if_true, ite_true, ite_false, true_and, and_true, eq_self, ne_eq, not_false_eq_true, not_true_eq_false, false_implies, true_implies, and_self, reduceCtorEq, Nat.reduceBEq, Bool.or_false, Bool.false_or, Bool.or_true, Bool.true_or, if1_0, if1_1, if1_01, one_01, zer_01, lg_cmp_ge, lg_cmp_le, lg_cmp_gt, lg_cmp_lt, lg_cmp_eq, Classical.not_not]
  exact lo F 0 _ _ (by omega)
-- the chain behind its first finding
def chF (rw_ vd mc tk lk : Nat → Int32) (F : Nat) (m : Int32) : Nat → Nat → Int64 → Int32 → Option Int32
  | 0, _, _, t => some t
  | j + 1, c, u, t => match erF rw_ vd mc tk (lk c) m t u F with
    | none => none
    | some f => chF rw_ vd mc tk lk F m j (c + 1) (u ||| (1 <<< ((nI f).toInt64 &&& 63))) (tk f)
theorem ch_0 {m t : Int32} {u : Int64} {j c : Nat} (e : erF rw_ vd mc tk (lk c) m t u F = none) : chF rw_ vd mc tk lk F m (j + 1) c u t = none := by rw [chF, e]
theorem ch_s {m t : Int32} {u : Int64} {j c f : Nat} (e : erF rw_ vd mc tk (lk c) m t u F = some f) : chF rw_ vd mc tk lk F m (j + 1) c u t = chF rw_ vd mc tk lk F m j (c + 1) (u ||| (1 <<< ((nI f).toInt64 &&& 63))) (tk f) := by rw [chF, e]
def chB (rw_ vd mc tk lk : Nat → Int32) (F z : Nat) (sp : Int32) (st : Nat) : Bool := match chF rw_ vd mc tk lk F (mc st) (z - 1) 1 (1 <<< ((nI st).toInt64 &&& 63)) (tk st) with
  | none => false
  | some t => !decide (sp < t - tk st)
set_option maxHeartbeats 4000000 in
set_option maxRecDepth 100000 in
theorem c_isChainFrom {st z : Nat} {sp : Int32} (hS : Sh mu ro) (hd : 1 ≤ d) (hF : sg 15 5 = nI F) (hF2 : F ≤ 40) (hf : ∀ f, f < F → sg 16 f = rw_ f ∧ sg 18 f = mc f ∧ sg 19 f = tk f ∧ sg 20 f = vd f) (hst : st < F) (hz : sg 21 1 = nI z) (hz2 : 1 ≤ z ∧ z ≤ 5) (hl : ∀ c, c < z → sg 22 c = lk c) (hsp : sg 21 2 = sp) (hk : K (some (.int (if chB rw_ vd mc tk lk F z sp st = true then 1 else 0))) sg) : aCall d 8 [.ref 15, .int (nI st), .ref 21] n mu ro sg K := by
  have es : (nI st).toNatClampNeg = st := nI_clamp (by omega)
  have vs : vp_in (nI st) 40 := vp_in_nI (by omega) (by decide)
  obtain ⟨s1, s2', s3, s4⟩ := hf st hst
  unfold chB at hk
  refine aCall_start (mL := 8) (cc := cX1_isChainFrom) (o := 1) (ret := (some .boolean)) 5 (by decide) (by decide +kernel) rfl rfl rfl rfl (Nat.le_of_ble_eq_true rfl) (fun G hC hG => ?_)
  simp only [exL, List.cons_append, List.nil_append, rp_0, rp_1, rp_2, rp_3, rp_4, rp_5, rp_6, rp_7, rp_8, rp_9, rp_10, rp_11, List.append_nil]
  have lo : ∀ (j c : Nat) (u : Int64) (t : Int32) (v7 : Value), c + j = z → 1 ≤ c → chF rw_ vd mc tk lk F (mc st) (z - 1) 1 (1 <<< ((nI st).toInt64 &&& 63)) (tk st) = chF rw_ vd mc tk lk F (mc st) j c u t → AW G 8 n 0 0 mu ro sg 15 [.ref 15, .int (nI st), .ref 21, .long u, .float 0, .int t, .int (nI c), v7] [] := by
    intro j
    induction j with
    | zero =>
      intro c u t v7 hc hc1 he
      have hq : (nI z ≤ nI c) = True := eq_true (nI_le (by omega) (by omega))
      rw [he, chF] at hk
      simp only [Bool.not_eq_true', decide_eq_false_iff_not] at hk
      refine hG (fun q => q == 15) 80 _ _ _ _ (Nat.le_of_ble_eq_true rfl) ?_
      simp only [D_X1_isChainFrom, N_X1_isChainFrom, ↓reduceIte, vcS, vcC, vcI, gtF, ptF, inS, inV, fv0, fv1, fv2, fv3, fw0, fw1, lg_0, lg_1, lg_2, lg_3, lg_4, lg_5, lg_6, lg_7, lg_8, lg_9, lg_10, lg_11, lg_12, lg_13, lg_14, lsq_0, lsl_0, lsq_1, lsl_1, lsq_2, lsl_2, lsq_3, lsl_3, lsq_4, lsl_4, lsq_5, lsl_5, lsq_6, lsl_6, lsq_7, lsl_7, lsq_8, lsl_8, lsq_9, lsl_9, lsq_10, lsl_10, lsq_11, lsl_11, lsq_12, lsl_12, lsq_13, lsl_13, lsq_14, lsl_14, tk_0, tk_1, tk_2, tk_3, tk_4, tk_5, tk_6, tk_7, tk_8, cs_n, cs_i, cs_l, cs_r, cs_u, nl, rt_s, rt_n, CST1, Nat.reduceAdd, Nat.reduceLeDiff, va_rf, rtOk, Bool.false_eq_true, Bool.true_eq_false, if_false, if_true, ite_true, ite_false, true_and, and_true, eq_self, ne_eq, not_false_eq_true, not_true_eq_false, false_implies, true_implies, and_self, reduceCtorEq, Nat.reduceBEq, Bool.or_false, Bool.false_or, Bool.or_true, Bool.true_or, if1_0, if1_1, if1_01, one_01, zer_01, lg_cmp_ge, lg_cmp_le, lg_cmp_gt, lg_cmp_lt, lg_cmp_eq, Classical.not_not, SHm hS, SHr hS, hz, ↓im_T hq, ↓im_TN hq, hq, es, vs, s3, hsp]
      refine ⟨fun g => ?_, fun g => ?_⟩
      · rw [if_neg (not_not_intro g)] at hk; exact hk
      · rw [if_pos g] at hk; exact hk
    | succ j ih =>
      intro c u t v7 hc hc1 he
      have hq : (nI z ≤ nI c) = False := eq_false (nI_ge (by omega) (by omega))
      have ec : (nI c).toNatClampNeg = c := nI_clamp (by omega)
      have vc : vp_in (nI c) 5 := vp_in_nI (by omega) (by decide)
      have lc := hl c (by omega)
      refine hG (fun q => q == 15) 80 _ _ _ _ (Nat.le_of_ble_eq_true rfl) ?_
      simp only [D_X1_isChainFrom, N_X1_isChainFrom, ↓reduceIte, vcS, vcC, vcI, gtF, ptF, inS, inV, fv0, fv1, fv2, fv3, fw0, fw1, lg_0, lg_1, lg_2, lg_3, lg_4, lg_5, lg_6, lg_7, lg_8, lg_9, lg_10, lg_11, lg_12, lg_13, lg_14, lsq_0, lsl_0, lsq_1, lsl_1, lsq_2, lsl_2, lsq_3, lsl_3, lsq_4, lsl_4, lsq_5, lsl_5, lsq_6, lsl_6, lsq_7, lsl_7, lsq_8, lsl_8, lsq_9, lsl_9, lsq_10, lsl_10, lsq_11, lsl_11, lsq_12, lsl_12, lsq_13, lsl_13, lsq_14, lsl_14, tk_0, tk_1, tk_2, tk_3, tk_4, tk_5, tk_6, tk_7, tk_8, cs_n, cs_i, cs_l, cs_r, cs_u, nl, rt_s, rt_n, CST1, Nat.reduceAdd, Nat.reduceLeDiff, va_rf, rtOk, Bool.false_eq_true, Bool.true_eq_false, if_false, if_true, ite_true, ite_false, true_and, and_true, eq_self, ne_eq, not_false_eq_true, not_true_eq_false, false_implies, true_implies, and_self, reduceCtorEq, Nat.reduceBEq, Bool.or_false, Bool.false_or, Bool.or_true, Bool.true_or, if1_0, if1_1, if1_01, one_01, zer_01, lg_cmp_ge, lg_cmp_le, lg_cmp_gt, lg_cmp_lt, lg_cmp_eq, Classical.not_not, SHm hS, SHr hS, hz, ↓im_F hq, ↓im_FN hq, hq, es, vs, s2', ec, vc, lc]
      refine ⟨hd, c_earliest hS hF hF2 hf ?_⟩
      cases e : erF rw_ vd mc tk (lk c) (mc st) t u F with
      | none =>
        rw [ch_0 e] at he
        rw [he] at hk
        have z9 : (erB none = -9) = True := eq_true rfl
        simp only [D_X1_isChainFrom, N_X1_isChainFrom, ↓reduceIte, vcS, vcC, vcI, gtF, ptF, inS, inV, fv0, fv1, fv2, fv3, fw0, fw1, lg_0, lg_1, lg_2, lg_3, lg_4, lg_5, lg_6, lg_7, lg_8, lg_9, lg_10, lg_11, lg_12, lg_13, lg_14, lsq_0, lsl_0, lsq_1, lsl_1, lsq_2, lsl_2, lsq_3, lsl_3, lsq_4, lsl_4, lsq_5, lsl_5, lsq_6, lsl_6, lsq_7, lsl_7, lsq_8, lsl_8, lsq_9, lsl_9, lsq_10, lsl_10, lsq_11, lsl_11, lsq_12, lsl_12, lsq_13, lsl_13, lsq_14, lsl_14, tk_0, tk_1, tk_2, tk_3, tk_4, tk_5, tk_6, tk_7, tk_8, cs_n, cs_i, cs_l, cs_r, cs_u, nl, rt_s, rt_n, CST1, Nat.reduceAdd, Nat.reduceLeDiff, va_rf, rtOk, Bool.false_eq_true, Bool.true_eq_false, if_false, if_true, ite_true, ite_false, true_and, and_true, eq_self, ne_eq, not_false_eq_true, not_true_eq_false, false_implies, true_implies, and_self, reduceCtorEq, Nat.reduceBEq, Bool.or_false, Bool.false_or, Bool.or_true, Bool.true_or, if1_0, if1_1, if1_01, one_01, zer_01, lg_cmp_ge, lg_cmp_le, lg_cmp_gt, lg_cmp_lt, lg_cmp_eq, Classical.not_not, SHm hS, SHr hS, z9]
        simp only [Bool.false_eq_true, if_false] at hk
        exact hk
      | some f =>
        rw [ch_s e] at he
        have hf9 := er_lt F f e
        have ef : (nI f).toNatClampNeg = f := nI_clamp (by omega)
        have vf : vp_in (nI f) 40 := vp_in_nI (by omega) (by decide)
        have e2 : erB (some f) = nI f := rfl
        have z9 : (nI f = -9) = False := nI_n9 (by omega)
        have g3 := (hf f hf9).2.2.1
        rw [e2]
        simp only [D_X1_isChainFrom, N_X1_isChainFrom, ↓reduceIte, vcS, vcC, vcI, gtF, ptF, inS, inV, fv0, fv1, fv2, fv3, fw0, fw1, lg_0, lg_1, lg_2, lg_3, lg_4, lg_5, lg_6, lg_7, lg_8, lg_9, lg_10, lg_11, lg_12, lg_13, lg_14, lsq_0, lsl_0, lsq_1, lsl_1, lsq_2, lsl_2, lsq_3, lsl_3, lsq_4, lsl_4, lsq_5, lsl_5, lsq_6, lsl_6, lsq_7, lsl_7, lsq_8, lsl_8, lsq_9, lsl_9, lsq_10, lsl_10, lsq_11, lsl_11, lsq_12, lsl_12, lsq_13, lsl_13, lsq_14, lsl_14, tk_0, tk_1, tk_2, tk_3, tk_4, tk_5, tk_6, tk_7, tk_8, cs_n, cs_i, cs_l, cs_r, cs_u, nl, rt_s, rt_n, CST1, Nat.reduceAdd, Nat.reduceLeDiff, va_rf, rtOk, Bool.false_eq_true, Bool.true_eq_false, if_false, if_true, ite_true, ite_false, true_and, and_true, eq_self, ne_eq, not_false_eq_true, not_true_eq_false, false_implies, true_implies, and_self, reduceCtorEq, Nat.reduceBEq, Bool.or_false, Bool.false_or, Bool.or_true, Bool.true_or, if1_0, if1_1, if1_01, one_01, zer_01, lg_cmp_ge, lg_cmp_le, lg_cmp_gt, lg_cmp_lt, lg_cmp_eq, Classical.not_not, SHm hS, SHr hS, z9, ef, vf, g3, nI_1]
        exact ih (c + 1) _ _ _ (by omega) (by omega) he
  refine hG (fun q => q == 15) 80 _ _ _ _ (Nat.le_of_ble_eq_true rfl) ?_
  simp only [D_X1_isChainFrom, N_X1_isChainFrom, ↓reduceIte, vcS, vcC, vcI, gtF, ptF, inS, inV, fv0, fv1, fv2, fv3, fw0, fw1, lg_0, lg_1, lg_2, lg_3, lg_4, lg_5, lg_6, lg_7, lg_8, lg_9, lg_10, lg_11, lg_12, lg_13, lg_14, lsq_0, lsl_0, lsq_1, lsl_1, lsq_2, lsl_2, lsq_3, lsl_3, lsq_4, lsl_4, lsq_5, lsl_5, lsq_6, lsl_6, lsq_7, lsl_7, lsq_8, lsl_8, lsq_9, lsl_9, lsq_10, lsl_10, lsq_11, lsl_11, lsq_12, lsl_12, lsq_13, lsl_13, lsq_14, lsl_14, tk_0, tk_1, tk_2, tk_3, tk_4, tk_5, tk_6, tk_7, tk_8, cs_n, cs_i, cs_l, cs_r, cs_u, nl, rt_s, rt_n, CST1, Nat.reduceAdd, Nat.reduceLeDiff, va_rf, rtOk, Bool.false_eq_true, Bool.true_eq_false, if_false, if_true, ite_true, ite_false, true_and, and_true, eq_self, ne_eq, not_false_eq_true, not_true_eq_false, false_implies, true_implies, and_self, reduceCtorEq, Nat.reduceBEq, Bool.or_false, Bool.false_or, Bool.or_true, Bool.true_or, if1_0, if1_1, if1_01, one_01, zer_01, lg_cmp_ge, lg_cmp_le, lg_cmp_gt, lg_cmp_lt, lg_cmp_eq, Classical.not_not, SHm hS, SHr hS, es, vs, s3]
  exact lo (z - 1) 1 _ _ _ (by omega) (by omega) rfl
def mwF (rw_ vd mc tk lk : Nat → Int32) (F z : Nat) (sp : Int32) : Nat → Int32
  | 0 => 0
  | f + 1 => if (rw_ f = lk 0 ∧ ¬ vd f = 1) ∧ chB rw_ vd mc tk lk F z sp f = true then mwF rw_ vd mc tk lk F z sp f ||| (1 <<< (mc f &&& 31)) else mwF rw_ vd mc tk lk F z sp f
set_option maxHeartbeats 4000000 in
set_option maxRecDepth 100000 in
theorem c_machinesWith {z : Nat} {sp : Int32} (hS : Sh mu ro) (hd : 2 ≤ d) (hF : sg 15 5 = nI F) (hF2 : F ≤ 40) (hf : ∀ f, f < F → sg 16 f = rw_ f ∧ sg 18 f = mc f ∧ sg 19 f = tk f ∧ sg 20 f = vd f) (hz : sg 21 1 = nI z) (hz2 : 1 ≤ z ∧ z ≤ 5) (hl : ∀ c, c < z → sg 22 c = lk c) (hsp : sg 21 2 = sp) (hk : K (some (.int (mwF rw_ vd mc tk lk F z sp F))) sg) : aCall d 7 [.ref 15, .ref 21] n mu ro sg K := by
  have v0 : vp_in (0 : Int32) 5 := vp_in_nI (n := 0) (by decide) (by decide)
  have e0 : (0 : Int32).toNatClampNeg = 0 := by decide
  have l0 := hl 0 (by omega)
  refine aCall_start (mL := 4) (cc := cX1_machinesWith) (o := 1) (ret := (some .int)) 2 (by decide) (by decide +kernel) rfl rfl rfl rfl (Nat.le_of_ble_eq_true rfl) (fun G hC hG => ?_)
  simp only [exL, List.cons_append, List.nil_append, rp_0, rp_1, rp_2, rp_3, rp_4, rp_5, rp_6, rp_7, rp_8, rp_9, rp_10, rp_11, List.append_nil]
  have lo : ∀ (mm f : Nat), f + mm = F → AW G 4 n 0 0 mu ro sg 4 [.ref 15, .ref 21, .int (mwF rw_ vd mc tk lk F z sp f), .int (nI f)] [] := by
    intro mm
    induction mm with
    | zero =>
      intro f hi
      have hc : (nI F ≤ nI f) = True := eq_true (nI_le (by omega) (by omega))
      have : f = F := by omega
      subst this
      refine hG (fun q => q == 4) 80 _ _ _ _ (Nat.le_of_ble_eq_true rfl) ?_
      simp only [D_X1_machinesWith, N_X1_machinesWith, ↓reduceIte, vcS, vcC, vcI, gtF, ptF, inS, inV, fv0, fv1, fv2, fv3, fw0, fw1, lg_0, lg_1, lg_2, lg_3, lg_4, lg_5, lg_6, lg_7, lg_8, lg_9, lg_10, lg_11, lg_12, lg_13, lg_14, lsq_0, lsl_0, lsq_1, lsl_1, lsq_2, lsl_2, lsq_3, lsl_3, lsq_4, lsl_4, lsq_5, lsl_5, lsq_6, lsl_6, lsq_7, lsl_7, lsq_8, lsl_8, lsq_9, lsl_9, lsq_10, lsl_10, lsq_11, lsl_11, lsq_12, lsl_12, lsq_13, lsl_13, lsq_14, lsl_14, tk_0, tk_1, tk_2, tk_3, tk_4, tk_5, tk_6, tk_7, tk_8, cs_n, cs_i, cs_l, cs_r, cs_u, nl, rt_s, rt_n, CST1, Nat.reduceAdd, Nat.reduceLeDiff, va_rf, rtOk, Bool.false_eq_true, Bool.true_eq_false, if_false, if_true, ite_true, ite_false, true_and, and_true, eq_self, ne_eq, not_false_eq_true, not_true_eq_false, false_implies, true_implies, and_self, reduceCtorEq, Nat.reduceBEq, Bool.or_false, Bool.false_or, Bool.or_true, Bool.true_or, if1_0, if1_1, if1_01, one_01, zer_01, lg_cmp_ge, lg_cmp_le, lg_cmp_gt, lg_cmp_lt, lg_cmp_eq, Classical.not_not, SHm hS, SHr hS, hF, ↓im_T hc, ↓im_TN hc, hc]
      exact hk
    | succ mm ih =>
      intro f hi
      have hc : (nI F ≤ nI f) = False := eq_false (nI_ge (by omega) (by omega))
      have ei : (nI f).toNatClampNeg = f := nI_clamp (by omega)
      have vi : vp_in (nI f) 40 := vp_in_nI (by omega) (by decide)
      obtain ⟨f1, f2, f3, f4⟩ := hf f (by omega)
      have h0 := ih (f + 1) (by omega)
      rw [mwF] at h0
      have no : ¬ ((rw_ f = lk 0 ∧ ¬ vd f = 1) ∧ chB rw_ vd mc tk lk F z sp f = true) → AW G 4 n 0 0 mu ro sg 4 [.ref 15, .ref 21, .int (mwF rw_ vd mc tk lk F z sp f), .int (nI (f + 1))] [] := by
        intro q
        rw [if_neg q] at h0
        exact h0
      refine hG (fun q => q == 4) 80 _ _ _ _ (Nat.le_of_ble_eq_true rfl) ?_
      simp only [D_X1_machinesWith, N_X1_machinesWith, ↓reduceIte, vcS, vcC, vcI, gtF, ptF, inS, inV, fv0, fv1, fv2, fv3, fw0, fw1, lg_0, lg_1, lg_2, lg_3, lg_4, lg_5, lg_6, lg_7, lg_8, lg_9, lg_10, lg_11, lg_12, lg_13, lg_14, lsq_0, lsl_0, lsq_1, lsl_1, lsq_2, lsl_2, lsq_3, lsl_3, lsq_4, lsl_4, lsq_5, lsl_5, lsq_6, lsl_6, lsq_7, lsl_7, lsq_8, lsl_8, lsq_9, lsl_9, lsq_10, lsl_10, lsq_11, lsl_11, lsq_12, lsl_12, lsq_13, lsl_13, lsq_14, lsl_14, tk_0, tk_1, tk_2, tk_3, tk_4, tk_5, tk_6, tk_7, tk_8, cs_n, cs_i, cs_l, cs_r, cs_u, nl, rt_s, rt_n, CST1, Nat.reduceAdd, Nat.reduceLeDiff, va_rf, rtOk, Bool.false_eq_true, Bool.true_eq_false, if_false, if_true, ite_true, ite_false, true_and, and_true, eq_self, ne_eq, not_false_eq_true, not_true_eq_false, false_implies, true_implies, and_self, reduceCtorEq, Nat.reduceBEq, Bool.or_false, Bool.false_or, Bool.or_true, Bool.true_or, if1_0, if1_1, if1_01, one_01, zer_01, lg_cmp_ge, lg_cmp_le, lg_cmp_gt, lg_cmp_lt, lg_cmp_eq, Classical.not_not, SHm hS, SHr hS, hF, ↓im_F hc, ↓im_FN hc, hc, ei, vi, f1, f4, v0, e0, l0, nI_1]
      refine ⟨fun g => no (fun u => g u.1.1), fun g => ⟨fun g2 => no (fun u => u.1.2 g2), fun g2 => ⟨by omega, c_isChainFrom hS (by omega) hF hF2 hf (by omega) hz hz2 hl hsp ?_⟩⟩⟩
      simp only [D_X1_machinesWith, N_X1_machinesWith, ↓reduceIte, vcS, vcC, vcI, gtF, ptF, inS, inV, fv0, fv1, fv2, fv3, fw0, fw1, lg_0, lg_1, lg_2, lg_3, lg_4, lg_5, lg_6, lg_7, lg_8, lg_9, lg_10, lg_11, lg_12, lg_13, lg_14, lsq_0, lsl_0, lsq_1, lsl_1, lsq_2, lsl_2, lsq_3, lsl_3, lsq_4, lsl_4, lsq_5, lsl_5, lsq_6, lsl_6, lsq_7, lsl_7, lsq_8, lsl_8, lsq_9, lsl_9, lsq_10, lsl_10, lsq_11, lsl_11, lsq_12, lsl_12, lsq_13, lsl_13, lsq_14, lsl_14, tk_0, tk_1, tk_2, tk_3, tk_4, tk_5, tk_6, tk_7, tk_8, cs_n, cs_i, cs_l, cs_r, cs_u, nl, rt_s, rt_n, CST1, Nat.reduceAdd, Nat.reduceLeDiff, va_rf, rtOk, Bool.false_eq_true, Bool.true_eq_false, if_false, if_true, ite_true, ite_false, true_and, and_true, eq_self, ne_eq, not_false_eq_true, not_true_eq_false, false_implies, true_implies, and_self, reduceCtorEq, Nat.reduceBEq, Bool.or_false, Bool.false_or, Bool.or_true, Bool.true_or, if1_0, if1_1, if1_01, one_01, zer_01, lg_cmp_ge, lg_cmp_le, lg_cmp_gt, lg_cmp_lt, lg_cmp_eq, Classical.not_not, SHm hS, SHr hS, ei, vi, f2, nI_1]
      refine ⟨fun g3 => no (fun u => g3 u.2), fun g3 => ?_⟩
      rw [if_pos ⟨⟨g, g2⟩, g3⟩] at h0
      exact h0
  refine hG (fun q => q == 4) 80 _ _ _ _ (Nat.le_of_ble_eq_true rfl) ?_
  simp only [D_X1_machinesWith, N_X1_machinesWith, ↓reduceIte, vcS, vcC, vcI, gtF, ptF, inS, inV, fv0, fv1, fv2, fv3, fw0, fw1, lg_0, lg_1, lg_2, lg_3, lg_4, lg_5, lg_6, lg_7, lg_8, lg_9, lg_10, lg_11, lg_12, lg_13, lg_14, lsq_0, lsl_0, lsq_1, lsl_1, lsq_2, lsl_2, lsq_3, lsl_3, lsq_4, lsl_4, lsq_5, lsl_5, lsq_6, lsl_6, lsq_7, lsl_7, lsq_8, lsl_8, lsq_9, lsl_9, lsq_10, lsl_10, lsq_11, lsl_11, lsq_12, lsl_12, lsq_13, lsl_13, lsq_14, lsl_14, tk_0, tk_1, tk_2, tk_3, tk_4, tk_5, tk_6, tk_7, tk_8, cs_n, cs_i, cs_l, cs_r, cs_u, nl, rt_s, rt_n, CST1, Nat.reduceAdd, Nat.reduceLeDiff, va_rf, rtOk, Bool.false_eq_true, Bool.true_eq_false, if_false, if_true, ite_true, ite_false, true_and, and_true, eq_self, ne_eq, not_false_eq_true, not_true_eq_false, false_implies, true_implies, and_self, reduceCtorEq, Nat.reduceBEq, Bool.or_false, Bool.false_or, Bool.or_true, Bool.true_or, if1_0, if1_1, if1_01, one_01, zer_01, lg_cmp_ge, lg_cmp_le, lg_cmp_gt, lg_cmp_lt, lg_cmp_eq, Classical.not_not]
  exact lo F 0 (by omega)
end H69
