/-! part 56: about, at, call, as on both sides -/
section H56
variable {d n N T Q F : Nat} {mu : aM} {ro : aR} {sg : aS} {K : Option Value → aS → Prop} {tb rb : Nat → Nat}
def gB (s : aS) (t : Nat) : Nat → Bool := fun p => decide (s 58 (80 * t + p) = -9)
def hB (s : aS) (t : Nat) : Nat → Bool := fun p => !decide (s 59 (80 * t + p) = -9)
theorem t1_g {a t : Nat} (h : I_t1 sg a t) : (∀ p, p < 79 → (sg (a + 1) p = -9) = (gB sg t p = true)) ∧ (∀ p, p < 79 → (sg 58 (80 * t + p) < 0) = (gB sg t p = true)) ∧ (∀ p, p < 79 → (sg (a + 2) p = -9) = (¬ hB sg t p = true)) ∧ (∀ p, p < 79 → (sg 59 (80 * t + p) < 0) = (¬ hB sg t p = true)) := by
  have g := h.2.2.2.2.2.2.2.2
  refine ⟨fun p hp => ?_, fun p hp => ?_, fun p hp => ?_, fun p hp => ?_⟩
  · rw [(g p hp).1, gB, decide_eq_true_iff]
  · rw [by_lt (g p hp).2.1, gB, decide_eq_true_iff]
  · rw [(g p hp).2.2.1, hB, Bool.not_eq_true', decide_eq_false_iff_not, Classical.not_not]
  · rw [by_lt (g p hp).2.2.2, hB, Bool.not_eq_true', decide_eq_false_iff_not, Classical.not_not]
theorem t1_k {a t : Nat} (h : I_t1 sg a t) : ∃ k e, k ≤ 2 ∧ sg a 1 = nI k ∧ sg 55 t = nI k ∧ e ≤ 79 ∧ sg a 6 = nI e ∧ lsE (gB sg t) 79 = e := by
  obtain ⟨h0, ⟨h1, h2⟩, h3, h4, h5, h6, h7, ⟨e, e1, e2, e3, e4⟩, h9⟩ := h
  obtain ⟨k, k1, k2⟩ := i_of (x := sg 55 t) (N := 2) h2.1 h2.2 (by decide)
  refine ⟨k, e, k1, h1.trans k2, k2, e1, e2, ls_e (fun p q1 q2 => decide_eq_true (e3 p q1 q2)) ?_ e1⟩
  rcases e4 with q | q
  · exact Or.inl q
  · exact Or.inr (decide_eq_false q)
def abV (s : aS) (t k : Nat) : Nat → Int32
  | 0 => s 55 t
  | 1 => s 56 t
  | 2 => s 57 t
  | 3 => nI (fsG (gB s t) 79 0)
  | 4 => nI (lnF k (lsE (gB s t) 79))
  | 5 => nI (cntB (hB s t) 79)
  | 6 => s 60 t
  | 7 => s 61 t
  | 8 => s 62 t
  | _ => -2
set_option maxHeartbeats 4000000 in
set_option maxRecDepth 100000 in
theorem c_about {x y : Int32} (hS : Sh mu ro) (hd : 3 ≤ d) (hT : S_tk mu ro n T tb) (hI : I_tk sg T tb) (hk1 : ¬ (0 ≤ x.toInt ∧ x.toInt ≤ (T : Int) - 1) → K (some (.int (-1))) sg) (hk2 : ∀ t : Nat, t < T → x = nI t → ¬ (0 ≤ y.toInt ∧ y.toInt ≤ 8) → K (some (.int (-2))) sg) (hk3 : ∀ t k i : Nat, t < T → x = nI t → sg 55 t = nI k → k ≤ 2 → i < 9 → y.toInt = i → K (some (.int (abV sg t k i))) sg) : aCall d 102 [.ref 0, .int x, .int y] n mu ro sg K := by
  obtain ⟨⟨i1, i2⟩, i3, i4, i5⟩ := id hI
  have sz : (#[51, 56, 61, 66, 71, 76, 81, 86, 91] : Array Int).size = (8 - 0 + 1 : Int).toNat := rfl
  have tl : (#[51, 56, 61, 66, 71, 76, 81, 86, 91] : Array Int).toList = [51, 56, 61, 66, 71, 76, 81, 86, 91] := rfl
  have le : ((0 : Int) ≤ 8) = True := eq_true (by decide)
  refine aCall_start (mL := 4) (cc := cX11_about) (o := 11) (ret := (some .int)) 1 (by decide) (by decide +kernel) rfl rfl rfl rfl (Nat.le_of_ble_eq_true rfl) (fun G hC hG => ?_)
  simp only [exL, List.cons_append, List.nil_append, rp_0, rp_1, rp_2, rp_3, rp_4, rp_5, rp_6, rp_7, rp_8, rp_9, rp_10, rp_11, List.append_nil]
  refine hG (fun _ => false) 60 _ _ _ _ (Nat.le_of_ble_eq_true rfl) ?_
  simp only [D_X11_about, N_X11_about, ↓reduceIte, vcS, vcC, vcI, gtF, ptF, inS, inV, fv0, fv1, fv2, fv3, fw0, fw1, lg_0, lg_1, lg_2, lg_3, lg_4, lg_5, lg_6, lg_7, lg_8, lg_9, lg_10, lg_11, lg_12, lg_13, lg_14, lsq_0, lsl_0, lsq_1, lsl_1, lsq_2, lsl_2, lsq_3, lsl_3, lsq_4, lsl_4, lsq_5, lsl_5, lsq_6, lsl_6, lsq_7, lsl_7, lsq_8, lsl_8, lsq_9, lsl_9, lsq_10, lsl_10, lsq_11, lsl_11, lsq_12, lsl_12, lsq_13, lsl_13, lsq_14, lsl_14, tk_0, tk_1, tk_2, tk_3, tk_4, tk_5, tk_6, tk_7, tk_8, cs_n, cs_i, cs_l, cs_r, cs_u, nl, rt_s, rt_n, CST1, Nat.reduceAdd, Nat.reduceLeDiff, va_rf, rtOk, Bool.false_eq_true, Bool.true_eq_false, if_false, if_true, ite_true, ite_false, true_and, and_true, eq_self, ne_eq, not_false_eq_true, not_true_eq_false, false_implies, true_implies, and_self, reduceCtorEq, Nat.reduceBEq, Bool.or_false, Bool.false_or, Bool.or_true, Bool.true_or, if1_0, if1_1, if1_01, one_01, zer_01, lg_cmp_ge, lg_cmp_le, lg_cmp_gt, lg_cmp_lt, lg_cmp_eq, Classical.not_not, SHm hS, SHr hS, ↓sw_9, sz, le]
  by_cases hx : 0 ≤ x.toInt ∧ x.toInt ≤ (T : Int) - 1
  · obtain ⟨t, ht', rfl⟩ := i_of (x := x) (N := 7) hx.1 (by omega) (by decide)
    have tt : (nI t).toInt = t := nI_toInt (by omega)
    have ht : t < T := by omega
    obtain ⟨s1, s2', s3, s4, s5, s6, s7, s8⟩ := hT t ht
    obtain ⟨g1, g2, g3, g4⟩ := t1_g (i4 t ht)
    obtain ⟨k, e, k1, k2, k3, k4, k5, k6⟩ := t1_k (i4 t ht)
    obtain ⟨h0, ⟨h1, h1'⟩, ⟨h2, h2'⟩, ⟨h3, h3'⟩, h5, h6, h7, -, -⟩ := i4 t ht
    refine ⟨by omega, c_talkN hS (by omega) hT i1 i3 ht ?_⟩
    simp only [D_X11_about, N_X11_about, ↓reduceIte, vcS, vcC, vcI, gtF, ptF, inS, inV, fv0, fv1, fv2, fv3, fw0, fw1, lg_0, lg_1, lg_2, lg_3, lg_4, lg_5, lg_6, lg_7, lg_8, lg_9, lg_10, lg_11, lg_12, lg_13, lg_14, lsq_0, lsl_0, lsq_1, lsl_1, lsq_2, lsl_2, lsq_3, lsl_3, lsq_4, lsl_4, lsq_5, lsl_5, lsq_6, lsl_6, lsq_7, lsl_7, lsq_8, lsl_8, lsq_9, lsl_9, lsq_10, lsl_10, lsq_11, lsl_11, lsq_12, lsl_12, lsq_13, lsl_13, lsq_14, lsl_14, tk_0, tk_1, tk_2, tk_3, tk_4, tk_5, tk_6, tk_7, tk_8, cs_n, cs_i, cs_l, cs_r, cs_u, nl, rt_s, rt_n, CST1, Nat.reduceAdd, Nat.reduceLeDiff, va_rf, rtOk, Bool.false_eq_true, Bool.true_eq_false, if_false, if_true, ite_true, ite_false, true_and, and_true, eq_self, ne_eq, not_false_eq_true, not_true_eq_false, false_implies, true_implies, and_self, reduceCtorEq, Nat.reduceBEq, Bool.or_false, Bool.false_or, Bool.or_true, Bool.true_or, if1_0, if1_1, if1_01, one_01, zer_01, lg_cmp_ge, lg_cmp_le, lg_cmp_gt, lg_cmp_lt, lg_cmp_eq, Classical.not_not, SHm hS, SHr hS, s2', ↓sw_9, sz, le, Int.reduceAdd]
    have hk4 := fun i => hk3 t k i ht rfl k3 k1
    refine ⟨fun z => hk2 t ht rfl (by omega), fun z => ?_, fun z => ?_, fun z => ?_, fun z => ⟨by omega, c_joined s2' s3 s5 g1 ?_⟩, fun z => ⟨by omega, c_length (by omega) s2' k2 k1 k5 k4 ?_⟩, fun z => ⟨by omega, c_twofold s2' s4 s6 g3 ?_⟩, fun z => ?_, fun z => ?_, fun z => ?_⟩
    · rw [h1]; exact hk4 0 (by omega) z
    · rw [h2]; exact hk4 1 (by omega) z
    · rw [h3]; exact hk4 2 (by omega) z
    · simp only [D_X11_about, N_X11_about, ↓reduceIte, vcS, vcC, vcI, gtF, ptF, inS, inV, fv0, fv1, fv2, fv3, fw0, fw1, lg_0, lg_1, lg_2, lg_3, lg_4, lg_5, lg_6, lg_7, lg_8, lg_9, lg_10, lg_11, lg_12, lg_13, lg_14, lsq_0, lsl_0, lsq_1, lsl_1, lsq_2, lsl_2, lsq_3, lsl_3, lsq_4, lsl_4, lsq_5, lsl_5, lsq_6, lsl_6, lsq_7, lsl_7, lsq_8, lsl_8, lsq_9, lsl_9, lsq_10, lsl_10, lsq_11, lsl_11, lsq_12, lsl_12, lsq_13, lsl_13, lsq_14, lsl_14, tk_0, tk_1, tk_2, tk_3, tk_4, tk_5, tk_6, tk_7, tk_8, cs_n, cs_i, cs_l, cs_r, cs_u, nl, rt_s, rt_n, CST1, Nat.reduceAdd, Nat.reduceLeDiff, va_rf, rtOk, Bool.false_eq_true, Bool.true_eq_false, if_false, if_true, ite_true, ite_false, true_and, and_true, eq_self, ne_eq, not_false_eq_true, not_true_eq_false, false_implies, true_implies, and_self, reduceCtorEq, Nat.reduceBEq, Bool.or_false, Bool.false_or, Bool.or_true, Bool.true_or, if1_0, if1_1, if1_01, one_01, zer_01, lg_cmp_ge, lg_cmp_le, lg_cmp_gt, lg_cmp_lt, lg_cmp_eq, Classical.not_not]
      exact hk4 3 (by omega) z
    · simp only [D_X11_about, N_X11_about, ↓reduceIte, vcS, vcC, vcI, gtF, ptF, inS, inV, fv0, fv1, fv2, fv3, fw0, fw1, lg_0, lg_1, lg_2, lg_3, lg_4, lg_5, lg_6, lg_7, lg_8, lg_9, lg_10, lg_11, lg_12, lg_13, lg_14, lsq_0, lsl_0, lsq_1, lsl_1, lsq_2, lsl_2, lsq_3, lsl_3, lsq_4, lsl_4, lsq_5, lsl_5, lsq_6, lsl_6, lsq_7, lsl_7, lsq_8, lsl_8, lsq_9, lsl_9, lsq_10, lsl_10, lsq_11, lsl_11, lsq_12, lsl_12, lsq_13, lsl_13, lsq_14, lsl_14, tk_0, tk_1, tk_2, tk_3, tk_4, tk_5, tk_6, tk_7, tk_8, cs_n, cs_i, cs_l, cs_r, cs_u, nl, rt_s, rt_n, CST1, Nat.reduceAdd, Nat.reduceLeDiff, va_rf, rtOk, Bool.false_eq_true, Bool.true_eq_false, if_false, if_true, ite_true, ite_false, true_and, and_true, eq_self, ne_eq, not_false_eq_true, not_true_eq_false, false_implies, true_implies, and_self, reduceCtorEq, Nat.reduceBEq, Bool.or_false, Bool.false_or, Bool.or_true, Bool.true_or, if1_0, if1_1, if1_01, one_01, zer_01, lg_cmp_ge, lg_cmp_le, lg_cmp_gt, lg_cmp_lt, lg_cmp_eq, Classical.not_not]
      have := hk4 4 (by omega) z
      rw [abV, k6] at this
      exact this
    · simp only [D_X11_about, N_X11_about, ↓reduceIte, vcS, vcC, vcI, gtF, ptF, inS, inV, fv0, fv1, fv2, fv3, fw0, fw1, lg_0, lg_1, lg_2, lg_3, lg_4, lg_5, lg_6, lg_7, lg_8, lg_9, lg_10, lg_11, lg_12, lg_13, lg_14, lsq_0, lsl_0, lsq_1, lsl_1, lsq_2, lsl_2, lsq_3, lsl_3, lsq_4, lsl_4, lsq_5, lsl_5, lsq_6, lsl_6, lsq_7, lsl_7, lsq_8, lsl_8, lsq_9, lsl_9, lsq_10, lsl_10, lsq_11, lsl_11, lsq_12, lsl_12, lsq_13, lsl_13, lsq_14, lsl_14, tk_0, tk_1, tk_2, tk_3, tk_4, tk_5, tk_6, tk_7, tk_8, cs_n, cs_i, cs_l, cs_r, cs_u, nl, rt_s, rt_n, CST1, Nat.reduceAdd, Nat.reduceLeDiff, va_rf, rtOk, Bool.false_eq_true, Bool.true_eq_false, if_false, if_true, ite_true, ite_false, true_and, and_true, eq_self, ne_eq, not_false_eq_true, not_true_eq_false, false_implies, true_implies, and_self, reduceCtorEq, Nat.reduceBEq, Bool.or_false, Bool.false_or, Bool.or_true, Bool.true_or, if1_0, if1_1, if1_01, one_01, zer_01, lg_cmp_ge, lg_cmp_le, lg_cmp_gt, lg_cmp_lt, lg_cmp_eq, Classical.not_not]
      exact hk4 5 (by omega) z
    · rw [h5]; exact hk4 6 (by omega) z
    · rw [h6]; exact hk4 7 (by omega) z
    · rw [h7]; exact hk4 8 (by omega) z
  · refine ⟨by omega, c_talkX hS (by omega) i1 i3 hx ?_⟩
    simp only [D_X11_about, N_X11_about, ↓reduceIte, vcS, vcC, vcI, gtF, ptF, inS, inV, fv0, fv1, fv2, fv3, fw0, fw1, lg_0, lg_1, lg_2, lg_3, lg_4, lg_5, lg_6, lg_7, lg_8, lg_9, lg_10, lg_11, lg_12, lg_13, lg_14, lsq_0, lsl_0, lsq_1, lsl_1, lsq_2, lsl_2, lsq_3, lsl_3, lsq_4, lsl_4, lsq_5, lsl_5, lsq_6, lsl_6, lsq_7, lsl_7, lsq_8, lsl_8, lsq_9, lsl_9, lsq_10, lsl_10, lsq_11, lsl_11, lsq_12, lsl_12, lsq_13, lsl_13, lsq_14, lsl_14, tk_0, tk_1, tk_2, tk_3, tk_4, tk_5, tk_6, tk_7, tk_8, cs_n, cs_i, cs_l, cs_r, cs_u, nl, rt_s, rt_n, CST1, Nat.reduceAdd, Nat.reduceLeDiff, va_rf, rtOk, Bool.false_eq_true, Bool.true_eq_false, if_false, if_true, ite_true, ite_false, true_and, and_true, eq_self, ne_eq, not_false_eq_true, not_true_eq_false, false_implies, true_implies, and_self, reduceCtorEq, Nat.reduceBEq, Bool.or_false, Bool.false_or, Bool.or_true, Bool.true_or, if1_0, if1_1, if1_01, one_01, zer_01, lg_cmp_ge, lg_cmp_le, lg_cmp_gt, lg_cmp_lt, lg_cmp_eq, Classical.not_not, SHm hS, SHr hS, ↓sw_9, sz, le]
    exact hk1 hx
set_option maxHeartbeats 4000000 in
set_option maxRecDepth 100000 in
theorem m_about {x y : Int32} (hS : Sh mu ro) (hd : 3 ≤ d) (hI : I_tk sg T tb) (hk1 : ¬ (0 ≤ x.toInt ∧ x.toInt ≤ (T : Int) - 1) → K (some (.int (-1))) sg) (hk2 : ∀ t : Nat, t < T → x = nI t → ¬ (0 ≤ y.toInt ∧ y.toInt ≤ 8) → K (some (.int (-2))) sg) (hk3 : ∀ t k i : Nat, t < T → x = nI t → sg 55 t = nI k → k ≤ 2 → i < 9 → y.toInt = i → K (some (.int (abV sg t k i))) sg) : aCall d 183 [.ref 48, .int x, .int y] n mu ro sg K := by
  obtain ⟨⟨i1, i2⟩, i3, i4, i5⟩ := id hI
  have sz : (#[51, 58, 65, 72, 78, 84, 125, 132, 139] : Array Int).size = (8 - 0 + 1 : Int).toNat := rfl
  have tl : (#[51, 58, 65, 72, 78, 84, 125, 132, 139] : Array Int).toList = [51, 58, 65, 72, 78, 84, 125, 132, 139] := rfl
  have le : ((0 : Int) ≤ 8) = True := eq_true (by decide)
  refine aCall_start (mL := 5) (cc := cX12_about) (o := 12) (ret := (some .int)) 2 (by decide) (by decide +kernel) rfl rfl rfl rfl (Nat.le_of_ble_eq_true rfl) (fun G hC hG => ?_)
  simp only [exL, List.cons_append, List.nil_append, rp_0, rp_1, rp_2, rp_3, rp_4, rp_5, rp_6, rp_7, rp_8, rp_9, rp_10, rp_11, List.append_nil]
  refine hG (fun q => q == 100) 60 _ _ _ _ (Nat.le_of_ble_eq_true rfl) ?_
  simp only [D_X12_about, N_X12_about, ↓reduceIte, vcS, vcC, vcI, gtF, ptF, inS, inV, fv0, fv1, fv2, fv3, fw0, fw1, lg_0, lg_1, lg_2, lg_3, lg_4, lg_5, lg_6, lg_7, lg_8, lg_9, lg_10, lg_11, lg_12, lg_13, lg_14, lsq_0, lsl_0, lsq_1, lsl_1, lsq_2, lsl_2, lsq_3, lsl_3, lsq_4, lsl_4, lsq_5, lsl_5, lsq_6, lsl_6, lsq_7, lsl_7, lsq_8, lsl_8, lsq_9, lsl_9, lsq_10, lsl_10, lsq_11, lsl_11, lsq_12, lsl_12, lsq_13, lsl_13, lsq_14, lsl_14, tk_0, tk_1, tk_2, tk_3, tk_4, tk_5, tk_6, tk_7, tk_8, cs_n, cs_i, cs_l, cs_r, cs_u, nl, rt_s, rt_n, CST1, Nat.reduceAdd, Nat.reduceLeDiff, va_rf, rtOk, Bool.false_eq_true, Bool.true_eq_false, if_false, if_true, ite_true, ite_false, true_and, and_true, eq_self, ne_eq, not_false_eq_true, not_true_eq_false, false_implies, true_implies, and_self, reduceCtorEq, Nat.reduceBEq, Bool.or_false, Bool.false_or, Bool.or_true, Bool.true_or, if1_0, if1_1, if1_01, one_01, zer_01, lg_cmp_ge, lg_cmp_le, lg_cmp_gt, lg_cmp_lt, lg_cmp_eq, Classical.not_not, SHm hS, SHr hS, ↓sw_9, sz, le]
  refine ⟨by omega, m_noTalk hS (by omega) i2 i3 ?_⟩
  by_cases hx : 0 ≤ x.toInt ∧ x.toInt ≤ (T : Int) - 1
  · obtain ⟨t, ht', rfl⟩ := i_of (x := x) (N := 7) hx.1 (by omega) (by decide)
    have tt : (nI t).toInt = t := nI_toInt (by omega)
    have ht : t < T := by omega
    have et : (nI t).toNatClampNeg = t := nI_clamp (by omega)
    have vt : vp_in (nI t) 8 := vp_in_nI (by omega) (by decide)
    obtain ⟨g1, g2, g3, g4⟩ := t1_g (i4 t ht)
    obtain ⟨k, e, k1, k2, k3, k4, k5, k6⟩ := t1_k (i4 t ht)
    have hq := eq_true hx
    have hk4 := fun i => hk3 t k i ht rfl k3 k1
    have lo : y.toInt = 5 → ∀ (m i : Nat), i + m = 79 → AW G 5 n 0 0 mu ro sg 100 [.ref 48, .int (nI t), .int y, .int (nI (cntB (hB sg t) i)), .int (nI i)] [] := by
      intro hy m
      induction m with
      | zero =>
        intro i hi
        have hc : (79 ≤ nI i) = True := eq_true (by have := nI_toInt (n := i) (by omega); ((try simp only [i_le, i_lt, i_eq, l_le, l_lt, l_eq, i_ne, l_ne, toL, l_add, l_sub1, LIT1, LIT2, Int.reduceNeg, ge_iff_le, gt_iff_lt] at *); omega))
        have : i = 79 := by omega
        subst this
        refine hG (fun q => q == 100) 80 _ _ _ _ (Nat.le_of_ble_eq_true rfl) ?_
        simp only [D_X12_about, N_X12_about, ↓reduceIte, vcS, vcC, vcI, gtF, ptF, inS, inV, fv0, fv1, fv2, fv3, fw0, fw1, lg_0, lg_1, lg_2, lg_3, lg_4, lg_5, lg_6, lg_7, lg_8, lg_9, lg_10, lg_11, lg_12, lg_13, lg_14, lsq_0, lsl_0, lsq_1, lsl_1, lsq_2, lsl_2, lsq_3, lsl_3, lsq_4, lsl_4, lsq_5, lsl_5, lsq_6, lsl_6, lsq_7, lsl_7, lsq_8, lsl_8, lsq_9, lsl_9, lsq_10, lsl_10, lsq_11, lsl_11, lsq_12, lsl_12, lsq_13, lsl_13, lsq_14, lsl_14, tk_0, tk_1, tk_2, tk_3, tk_4, tk_5, tk_6, tk_7, tk_8, cs_n, cs_i, cs_l, cs_r, cs_u, nl, rt_s, rt_n, CST1, Nat.reduceAdd, Nat.reduceLeDiff, va_rf, rtOk, Bool.false_eq_true, Bool.true_eq_false, if_false, if_true, ite_true, ite_false, true_and, and_true, eq_self, ne_eq, not_false_eq_true, not_true_eq_false, false_implies, true_implies, and_self, reduceCtorEq, Nat.reduceBEq, Bool.or_false, Bool.false_or, Bool.or_true, Bool.true_or, if1_0, if1_1, if1_01, one_01, zer_01, lg_cmp_ge, lg_cmp_le, lg_cmp_gt, lg_cmp_lt, lg_cmp_eq, Classical.not_not, ↓im_T hc, ↓im_TN hc, hc]
        exact hk4 5 (by omega) hy
      | succ m ih =>
        intro i hi
        have hc : (79 ≤ nI i) = False := eq_false (by have := nI_toInt (n := i) (by omega); ((try simp only [i_le, i_lt, i_eq, l_le, l_lt, l_eq, i_ne, l_ne, toL, l_add, l_sub1, LIT1, LIT2, Int.reduceNeg, ge_iff_le, gt_iff_lt] at *); omega))
        have ei : (nI (80 * t + i)).toNatClampNeg = 80 * t + i := nI_clamp (by omega)
        have vi : vp_in (nI (80 * t + i)) 640 := vp_in_nI (by omega) (by decide)
        have hgi := g4 i (by omega)
        have h0 := ih (i + 1) (by omega)
        rw [cntB] at h0
        refine hG (fun q => q == 100) 80 _ _ _ _ (Nat.le_of_ble_eq_true rfl) ?_
        simp only [D_X12_about, N_X12_about, ↓reduceIte, vcS, vcC, vcI, gtF, ptF, inS, inV, fv0, fv1, fv2, fv3, fw0, fw1, lg_0, lg_1, lg_2, lg_3, lg_4, lg_5, lg_6, lg_7, lg_8, lg_9, lg_10, lg_11, lg_12, lg_13, lg_14, lsq_0, lsl_0, lsq_1, lsl_1, lsq_2, lsl_2, lsq_3, lsl_3, lsq_4, lsl_4, lsq_5, lsl_5, lsq_6, lsl_6, lsq_7, lsl_7, lsq_8, lsl_8, lsq_9, lsl_9, lsq_10, lsl_10, lsq_11, lsl_11, lsq_12, lsl_12, lsq_13, lsl_13, lsq_14, lsl_14, tk_0, tk_1, tk_2, tk_3, tk_4, tk_5, tk_6, tk_7, tk_8, cs_n, cs_i, cs_l, cs_r, cs_u, nl, rt_s, rt_n, CST1, Nat.reduceAdd, Nat.reduceLeDiff, va_rf, rtOk, Bool.false_eq_true, Bool.true_eq_false, if_false, if_true, ite_true, ite_false, true_and, and_true, eq_self, ne_eq, not_false_eq_true, not_true_eq_false, false_implies, true_implies, and_self, reduceCtorEq, Nat.reduceBEq, Bool.or_false, Bool.false_or, Bool.or_true, Bool.true_or, if1_0, if1_1, if1_01, one_01, zer_01, lg_cmp_ge, lg_cmp_le, lg_cmp_gt, lg_cmp_lt, lg_cmp_eq, Classical.not_not, ↓im_F hc, ↓im_FN hc, hc, SHm hS, SHr hS, ml80, nI_add, ei, vi, hgi, nI_1, z0a]
        refine ⟨fun q => ?_, fun q => ?_⟩
        · rw [if_neg q, Nat.add_zero] at h0; exact h0
        · rw [if_pos q] at h0; exact h0
    simp only [D_X12_about, N_X12_about, ↓reduceIte, vcS, vcC, vcI, gtF, ptF, inS, inV, fv0, fv1, fv2, fv3, fw0, fw1, lg_0, lg_1, lg_2, lg_3, lg_4, lg_5, lg_6, lg_7, lg_8, lg_9, lg_10, lg_11, lg_12, lg_13, lg_14, lsq_0, lsl_0, lsq_1, lsl_1, lsq_2, lsl_2, lsq_3, lsl_3, lsq_4, lsl_4, lsq_5, lsl_5, lsq_6, lsl_6, lsq_7, lsl_7, lsq_8, lsl_8, lsq_9, lsl_9, lsq_10, lsl_10, lsq_11, lsl_11, lsq_12, lsl_12, lsq_13, lsl_13, lsq_14, lsl_14, tk_0, tk_1, tk_2, tk_3, tk_4, tk_5, tk_6, tk_7, tk_8, cs_n, cs_i, cs_l, cs_r, cs_u, nl, rt_s, rt_n, CST1, Nat.reduceAdd, Nat.reduceLeDiff, va_rf, rtOk, Bool.false_eq_true, Bool.true_eq_false, if_false, if_true, ite_true, ite_false, true_and, and_true, eq_self, ne_eq, not_false_eq_true, not_true_eq_false, false_implies, true_implies, and_self, reduceCtorEq, Nat.reduceBEq, Bool.or_false, Bool.false_or, Bool.or_true, Bool.true_or, if1_0, if1_1, if1_01, one_01, zer_01, lg_cmp_ge, lg_cmp_le, lg_cmp_gt, lg_cmp_lt, lg_cmp_eq, Classical.not_not, SHm hS, SHr hS, hq, ↓sw_9, sz, le, Int.reduceAdd, et, vt]
    refine ⟨fun z => hk2 t ht rfl (by omega), fun z => hk4 0 (by omega) z, fun z => hk4 1 (by omega) z, fun z => hk4 2 (by omega) z, fun z => ⟨by omega, m_joinedOf hS (by omega) g2 ?_⟩, fun z => ⟨by omega, m_lengthOf hS (by omega) k3 k1 g2 ?_⟩, fun z => lo z 79 0 (by omega), fun z => hk4 6 (by omega) z, fun z => hk4 7 (by omega) z, fun z => hk4 8 (by omega) z⟩
    · simp only [D_X12_about, N_X12_about, ↓reduceIte, vcS, vcC, vcI, gtF, ptF, inS, inV, fv0, fv1, fv2, fv3, fw0, fw1, lg_0, lg_1, lg_2, lg_3, lg_4, lg_5, lg_6, lg_7, lg_8, lg_9, lg_10, lg_11, lg_12, lg_13, lg_14, lsq_0, lsl_0, lsq_1, lsl_1, lsq_2, lsl_2, lsq_3, lsl_3, lsq_4, lsl_4, lsq_5, lsl_5, lsq_6, lsl_6, lsq_7, lsl_7, lsq_8, lsl_8, lsq_9, lsl_9, lsq_10, lsl_10, lsq_11, lsl_11, lsq_12, lsl_12, lsq_13, lsl_13, lsq_14, lsl_14, tk_0, tk_1, tk_2, tk_3, tk_4, tk_5, tk_6, tk_7, tk_8, cs_n, cs_i, cs_l, cs_r, cs_u, nl, rt_s, rt_n, CST1, Nat.reduceAdd, Nat.reduceLeDiff, va_rf, rtOk, Bool.false_eq_true, Bool.true_eq_false, if_false, if_true, ite_true, ite_false, true_and, and_true, eq_self, ne_eq, not_false_eq_true, not_true_eq_false, false_implies, true_implies, and_self, reduceCtorEq, Nat.reduceBEq, Bool.or_false, Bool.false_or, Bool.or_true, Bool.true_or, if1_0, if1_1, if1_01, one_01, zer_01, lg_cmp_ge, lg_cmp_le, lg_cmp_gt, lg_cmp_lt, lg_cmp_eq, Classical.not_not]
      exact hk4 3 (by omega) z
    · simp only [D_X12_about, N_X12_about, ↓reduceIte, vcS, vcC, vcI, gtF, ptF, inS, inV, fv0, fv1, fv2, fv3, fw0, fw1, lg_0, lg_1, lg_2, lg_3, lg_4, lg_5, lg_6, lg_7, lg_8, lg_9, lg_10, lg_11, lg_12, lg_13, lg_14, lsq_0, lsl_0, lsq_1, lsl_1, lsq_2, lsl_2, lsq_3, lsl_3, lsq_4, lsl_4, lsq_5, lsl_5, lsq_6, lsl_6, lsq_7, lsl_7, lsq_8, lsl_8, lsq_9, lsl_9, lsq_10, lsl_10, lsq_11, lsl_11, lsq_12, lsl_12, lsq_13, lsl_13, lsq_14, lsl_14, tk_0, tk_1, tk_2, tk_3, tk_4, tk_5, tk_6, tk_7, tk_8, cs_n, cs_i, cs_l, cs_r, cs_u, nl, rt_s, rt_n, CST1, Nat.reduceAdd, Nat.reduceLeDiff, va_rf, rtOk, Bool.false_eq_true, Bool.true_eq_false, if_false, if_true, ite_true, ite_false, true_and, and_true, eq_self, ne_eq, not_false_eq_true, not_true_eq_false, false_implies, true_implies, and_self, reduceCtorEq, Nat.reduceBEq, Bool.or_false, Bool.false_or, Bool.or_true, Bool.true_or, if1_0, if1_1, if1_01, one_01, zer_01, lg_cmp_ge, lg_cmp_le, lg_cmp_gt, lg_cmp_lt, lg_cmp_eq, Classical.not_not]
      exact hk4 4 (by omega) z
  · have hq := eq_false hx
    simp only [D_X12_about, N_X12_about, ↓reduceIte, vcS, vcC, vcI, gtF, ptF, inS, inV, fv0, fv1, fv2, fv3, fw0, fw1, lg_0, lg_1, lg_2, lg_3, lg_4, lg_5, lg_6, lg_7, lg_8, lg_9, lg_10, lg_11, lg_12, lg_13, lg_14, lsq_0, lsl_0, lsq_1, lsl_1, lsq_2, lsl_2, lsq_3, lsl_3, lsq_4, lsl_4, lsq_5, lsl_5, lsq_6, lsl_6, lsq_7, lsl_7, lsq_8, lsl_8, lsq_9, lsl_9, lsq_10, lsl_10, lsq_11, lsl_11, lsq_12, lsl_12, lsq_13, lsl_13, lsq_14, lsl_14, tk_0, tk_1, tk_2, tk_3, tk_4, tk_5, tk_6, tk_7, tk_8, cs_n, cs_i, cs_l, cs_r, cs_u, nl, rt_s, rt_n, CST1, Nat.reduceAdd, Nat.reduceLeDiff, va_rf, rtOk, Bool.false_eq_true, Bool.true_eq_false, if_false, if_true, ite_true, ite_false, true_and, and_true, eq_self, ne_eq, not_false_eq_true, not_true_eq_false, false_implies, true_implies, and_self, reduceCtorEq, Nat.reduceBEq, Bool.or_false, Bool.false_or, Bool.or_true, Bool.true_or, if1_0, if1_1, if1_01, one_01, zer_01, lg_cmp_ge, lg_cmp_le, lg_cmp_gt, lg_cmp_lt, lg_cmp_eq, Classical.not_not, SHm hS, SHr hS, ↓sw_9, sz, le, hq, z10]
    exact hk1 hx
set_option maxHeartbeats 4000000 in
set_option maxRecDepth 100000 in
theorem b_about {x y : Int32} (hS : Sh mu ro) (hd : 3 ≤ d) (hT : S_tk mu ro n T tb) (hI : I_tk sg T tb) (hk : ∀ r, K r sg) : aCall d 102 [.ref 0, .int x, .int y] n mu ro sg (fun r1 sg1 => aCall d 183 [.ref 48, .int x, .int y] n mu ro sg1 (fun r2 sg2 => r1 = r2 ∧ K r1 sg2)) := by
  have h8 := hI.2.1
  have mc : ∀ t : Nat, t < T → x = nI t → 0 ≤ x.toInt ∧ x.toInt ≤ (T : Int) - 1 := fun t ht h => by rw [h, nI_toInt (by omega)]; omega
  refine c_about hS hd hT hI (fun q => ?_) (fun t ht hx q => ?_) (fun t k i ht hx hkk hk2 hi hy => ?_)
  · exact m_about hS hd hI (fun _ => ⟨rfl, hk _⟩) (fun t ht h => absurd (mc t ht h) q) (fun t k i ht h => absurd (mc t ht h) q)
  · exact m_about hS hd hI (fun z => absurd (mc t ht hx) z) (fun _ _ _ _ => ⟨rfl, hk _⟩) (fun t k i ht h _ _ hi hy => absurd ⟨by omega, by omega⟩ q)
  · refine m_about hS hd hI (fun z => absurd (mc t ht hx) z) (fun _ _ _ z => absurd ⟨by omega, by omega⟩ z) (fun t2 k2 i2 ht2 hx2 hkk2 hk22 hi2 hy2 => ?_)
    have z1 : t = t2 := nI_inj (by omega) (by omega) hx hx2
    subst z1
    have z2 : k = k2 := nI_inj (by omega) (by omega) hkk hkk2
    have z3 : i = i2 := by omega
    subst z2 z3
    exact ⟨rfl, hk _⟩
-- at
def okA (T : Nat) (x p : Int32) : Prop := (0 ≤ x.toInt ∧ x.toInt ≤ (T : Int) - 1) ∧ (0 ≤ p.toInt ∧ p.toInt ≤ 78)
set_option maxHeartbeats 4000000 in
set_option maxRecDepth 100000 in
theorem c_at {x r p : Int32} (hS : Sh mu ro) (hd : 3 ≤ d) (hT : S_tk mu ro n T tb) (hI : I_tk sg T tb) (hk1 : ¬ okA T x p → K (some (.int (-1))) sg) (hk2 : okA T x p → ¬ (0 ≤ r.toInt ∧ r.toInt ≤ 1) → K (some (.int (-2))) sg) (hk3 : ∀ t q : Nat, t < T → x = nI t → q < 79 → p = nI q → (0 ≤ r.toInt ∧ r.toInt ≤ 1) → K (some (.int (if sg 55 t = 0 then byF r (sg 58 (80 * t + q)) (sg 59 (80 * t + q)) else -3))) sg) : aCall d 103 [.ref 0, .int x, .int r, .int p] n mu ro sg K := by
  obtain ⟨⟨i1, i2⟩, i3, i4, i5⟩ := id hI
  refine aCall_start (mL := 5) (cc := cX11_at) (o := 11) (ret := (some .int)) 1 (by decide) (by decide +kernel) rfl rfl rfl rfl (Nat.le_of_ble_eq_true rfl) (fun G hC hG => ?_)
  simp only [exL, List.cons_append, List.nil_append, rp_0, rp_1, rp_2, rp_3, rp_4, rp_5, rp_6, rp_7, rp_8, rp_9, rp_10, rp_11, List.append_nil]
  refine hG (fun _ => false) 60 _ _ _ _ (Nat.le_of_ble_eq_true rfl) ?_
  simp only [D_X11_at, N_X11_at, ↓reduceIte, vcS, vcC, vcI, gtF, ptF, inS, inV, fv0, fv1, fv2, fv3, fw0, fw1, lg_0, lg_1, lg_2, lg_3, lg_4, lg_5, lg_6, lg_7, lg_8, lg_9, lg_10, lg_11, lg_12, lg_13, lg_14, lsq_0, lsl_0, lsq_1, lsl_1, lsq_2, lsl_2, lsq_3, lsl_3, lsq_4, lsl_4, lsq_5, lsl_5, lsq_6, lsl_6, lsq_7, lsl_7, lsq_8, lsl_8, lsq_9, lsl_9, lsq_10, lsl_10, lsq_11, lsl_11, lsq_12, lsl_12, lsq_13, lsl_13, lsq_14, lsl_14, tk_0, tk_1, tk_2, tk_3, tk_4, tk_5, tk_6, tk_7, tk_8, cs_n, cs_i, cs_l, cs_r, cs_u, nl, rt_s, rt_n, CST1, Nat.reduceAdd, Nat.reduceLeDiff, va_rf, rtOk, Bool.false_eq_true, Bool.true_eq_false, if_false, if_true, ite_true, ite_false, true_and, and_true, eq_self, ne_eq, not_false_eq_true, not_true_eq_false, false_implies, true_implies, and_self, reduceCtorEq, Nat.reduceBEq, Bool.or_false, Bool.false_or, Bool.or_true, Bool.true_or, if1_0, if1_1, if1_01, one_01, zer_01, lg_cmp_ge, lg_cmp_le, lg_cmp_gt, lg_cmp_lt, lg_cmp_eq, Classical.not_not, SHm hS, SHr hS]
  by_cases hx : 0 ≤ x.toInt ∧ x.toInt ≤ (T : Int) - 1
  · obtain ⟨t, ht', rfl⟩ := i_of (x := x) (N := 7) hx.1 (by omega) (by decide)
    have tt : (nI t).toInt = t := nI_toInt (by omega)
    have ht : t < T := by omega
    obtain ⟨s1, s2', s3, s4, s5, s6, s7, s8⟩ := hT t ht
    obtain ⟨k, e, k1, k2, k3, k4, k5, k6⟩ := t1_k (i4 t ht)
    have gg := (i4 t ht).2.2.2.2.2.2.2.2
    refine ⟨by omega, c_talkN hS (by omega) hT i1 i3 ht ?_⟩
    simp only [D_X11_at, N_X11_at, ↓reduceIte, vcS, vcC, vcI, gtF, ptF, inS, inV, fv0, fv1, fv2, fv3, fw0, fw1, lg_0, lg_1, lg_2, lg_3, lg_4, lg_5, lg_6, lg_7, lg_8, lg_9, lg_10, lg_11, lg_12, lg_13, lg_14, lsq_0, lsl_0, lsq_1, lsl_1, lsq_2, lsl_2, lsq_3, lsl_3, lsq_4, lsl_4, lsq_5, lsl_5, lsq_6, lsl_6, lsq_7, lsl_7, lsq_8, lsl_8, lsq_9, lsl_9, lsq_10, lsl_10, lsq_11, lsl_11, lsq_12, lsl_12, lsq_13, lsl_13, lsq_14, lsl_14, tk_0, tk_1, tk_2, tk_3, tk_4, tk_5, tk_6, tk_7, tk_8, cs_n, cs_i, cs_l, cs_r, cs_u, nl, rt_s, rt_n, CST1, Nat.reduceAdd, Nat.reduceLeDiff, va_rf, rtOk, Bool.false_eq_true, Bool.true_eq_false, if_false, if_true, ite_true, ite_false, true_and, and_true, eq_self, ne_eq, not_false_eq_true, not_true_eq_false, false_implies, true_implies, and_self, reduceCtorEq, Nat.reduceBEq, Bool.or_false, Bool.false_or, Bool.or_true, Bool.true_or, if1_0, if1_1, if1_01, one_01, zer_01, lg_cmp_ge, lg_cmp_le, lg_cmp_gt, lg_cmp_lt, lg_cmp_eq, Classical.not_not, SHm hS, SHr hS]
    refine ⟨by omega, c_isIn ?_⟩
    simp only [D_X11_at, N_X11_at, ↓reduceIte, vcS, vcC, vcI, gtF, ptF, inS, inV, fv0, fv1, fv2, fv3, fw0, fw1, lg_0, lg_1, lg_2, lg_3, lg_4, lg_5, lg_6, lg_7, lg_8, lg_9, lg_10, lg_11, lg_12, lg_13, lg_14, lsq_0, lsl_0, lsq_1, lsl_1, lsq_2, lsl_2, lsq_3, lsl_3, lsq_4, lsl_4, lsq_5, lsl_5, lsq_6, lsl_6, lsq_7, lsl_7, lsq_8, lsl_8, lsq_9, lsl_9, lsq_10, lsl_10, lsq_11, lsl_11, lsq_12, lsl_12, lsq_13, lsl_13, lsq_14, lsl_14, tk_0, tk_1, tk_2, tk_3, tk_4, tk_5, tk_6, tk_7, tk_8, cs_n, cs_i, cs_l, cs_r, cs_u, nl, rt_s, rt_n, CST1, Nat.reduceAdd, Nat.reduceLeDiff, va_rf, rtOk, Bool.false_eq_true, Bool.true_eq_false, if_false, if_true, ite_true, ite_false, true_and, and_true, eq_self, ne_eq, not_false_eq_true, not_true_eq_false, false_implies, true_implies, and_self, reduceCtorEq, Nat.reduceBEq, Bool.or_false, Bool.false_or, Bool.or_true, Bool.true_or, if1_0, if1_1, if1_01, one_01, zer_01, lg_cmp_ge, lg_cmp_le, lg_cmp_gt, lg_cmp_lt, lg_cmp_eq, Classical.not_not, SHm hS, SHr hS, LIT1]
    refine ⟨fun q1 => ⟨by omega, c_isIn ?_⟩, fun q1 => hk1 (fun z => q1 z.2)⟩
    simp only [D_X11_at, N_X11_at, ↓reduceIte, vcS, vcC, vcI, gtF, ptF, inS, inV, fv0, fv1, fv2, fv3, fw0, fw1, lg_0, lg_1, lg_2, lg_3, lg_4, lg_5, lg_6, lg_7, lg_8, lg_9, lg_10, lg_11, lg_12, lg_13, lg_14, lsq_0, lsl_0, lsq_1, lsl_1, lsq_2, lsl_2, lsq_3, lsl_3, lsq_4, lsl_4, lsq_5, lsl_5, lsq_6, lsl_6, lsq_7, lsl_7, lsq_8, lsl_8, lsq_9, lsl_9, lsq_10, lsl_10, lsq_11, lsl_11, lsq_12, lsl_12, lsq_13, lsl_13, lsq_14, lsl_14, tk_0, tk_1, tk_2, tk_3, tk_4, tk_5, tk_6, tk_7, tk_8, cs_n, cs_i, cs_l, cs_r, cs_u, nl, rt_s, rt_n, CST1, Nat.reduceAdd, Nat.reduceLeDiff, va_rf, rtOk, Bool.false_eq_true, Bool.true_eq_false, if_false, if_true, ite_true, ite_false, true_and, and_true, eq_self, ne_eq, not_false_eq_true, not_true_eq_false, false_implies, true_implies, and_self, reduceCtorEq, Nat.reduceBEq, Bool.or_false, Bool.false_or, Bool.or_true, Bool.true_or, if1_0, if1_1, if1_01, one_01, zer_01, lg_cmp_ge, lg_cmp_le, lg_cmp_gt, lg_cmp_lt, lg_cmp_eq, Classical.not_not, SHm hS, SHr hS, LIT1, s2']
    refine ⟨fun q2 => ⟨by omega, c_isSealed s2' k2 k1 ?_⟩, fun q2 => hk2 ⟨hx, q1⟩ q2⟩
    obtain ⟨p', hp', rfl⟩ := i_of (x := p) (N := 78) q1.1 q1.2 (by decide)
    have hk4 := hk3 t p' ht rfl (by omega) rfl q2
    by_cases k0 : k = 0
    · rw [if_pos (by rw [k3, k0]; rfl)] at hk4
      rw [if_pos k0]
      simp only [D_X11_at, N_X11_at, ↓reduceIte, vcS, vcC, vcI, gtF, ptF, inS, inV, fv0, fv1, fv2, fv3, fw0, fw1, lg_0, lg_1, lg_2, lg_3, lg_4, lg_5, lg_6, lg_7, lg_8, lg_9, lg_10, lg_11, lg_12, lg_13, lg_14, lsq_0, lsl_0, lsq_1, lsl_1, lsq_2, lsl_2, lsq_3, lsl_3, lsq_4, lsl_4, lsq_5, lsl_5, lsq_6, lsl_6, lsq_7, lsl_7, lsq_8, lsl_8, lsq_9, lsl_9, lsq_10, lsl_10, lsq_11, lsl_11, lsq_12, lsl_12, lsq_13, lsl_13, lsq_14, lsl_14, tk_0, tk_1, tk_2, tk_3, tk_4, tk_5, tk_6, tk_7, tk_8, cs_n, cs_i, cs_l, cs_r, cs_u, nl, rt_s, rt_n, CST1, Nat.reduceAdd, Nat.reduceLeDiff, va_rf, rtOk, Bool.false_eq_true, Bool.true_eq_false, if_false, if_true, ite_true, ite_false, true_and, and_true, eq_self, ne_eq, not_false_eq_true, not_true_eq_false, false_implies, true_implies, and_self, reduceCtorEq, Nat.reduceBEq, Bool.or_false, Bool.false_or, Bool.or_true, Bool.true_or, if1_0, if1_1, if1_01, one_01, zer_01, lg_cmp_ge, lg_cmp_le, lg_cmp_gt, lg_cmp_lt, lg_cmp_eq, Classical.not_not, SHm hS, SHr hS, s2']
      refine ⟨by omega, c_byteAt s2' s3 s5 s4 s6 (by omega) ?_⟩
      simp only [D_X11_at, N_X11_at, ↓reduceIte, vcS, vcC, vcI, gtF, ptF, inS, inV, fv0, fv1, fv2, fv3, fw0, fw1, lg_0, lg_1, lg_2, lg_3, lg_4, lg_5, lg_6, lg_7, lg_8, lg_9, lg_10, lg_11, lg_12, lg_13, lg_14, lsq_0, lsl_0, lsq_1, lsl_1, lsq_2, lsl_2, lsq_3, lsl_3, lsq_4, lsl_4, lsq_5, lsl_5, lsq_6, lsl_6, lsq_7, lsl_7, lsq_8, lsl_8, lsq_9, lsl_9, lsq_10, lsl_10, lsq_11, lsl_11, lsq_12, lsl_12, lsq_13, lsl_13, lsq_14, lsl_14, tk_0, tk_1, tk_2, tk_3, tk_4, tk_5, tk_6, tk_7, tk_8, cs_n, cs_i, cs_l, cs_r, cs_u, nl, rt_s, rt_n, CST1, Nat.reduceAdd, Nat.reduceLeDiff, va_rf, rtOk, Bool.false_eq_true, Bool.true_eq_false, if_false, if_true, ite_true, ite_false, true_and, and_true, eq_self, ne_eq, not_false_eq_true, not_true_eq_false, false_implies, true_implies, and_self, reduceCtorEq, Nat.reduceBEq, Bool.or_false, Bool.false_or, Bool.or_true, Bool.true_or, if1_0, if1_1, if1_01, one_01, zer_01, lg_cmp_ge, lg_cmp_le, lg_cmp_gt, lg_cmp_lt, lg_cmp_eq, Classical.not_not, SHm hS, SHr hS]
      rw [(gg p' (by omega)).1, (gg p' (by omega)).2.2.1]
      exact hk4
    · rw [if_neg (by rw [k3]; exact nI_ne0 (by omega) (by omega))] at hk4
      rw [if_neg k0]
      simp only [D_X11_at, N_X11_at, ↓reduceIte, vcS, vcC, vcI, gtF, ptF, inS, inV, fv0, fv1, fv2, fv3, fw0, fw1, lg_0, lg_1, lg_2, lg_3, lg_4, lg_5, lg_6, lg_7, lg_8, lg_9, lg_10, lg_11, lg_12, lg_13, lg_14, lsq_0, lsl_0, lsq_1, lsl_1, lsq_2, lsl_2, lsq_3, lsl_3, lsq_4, lsl_4, lsq_5, lsl_5, lsq_6, lsl_6, lsq_7, lsl_7, lsq_8, lsl_8, lsq_9, lsl_9, lsq_10, lsl_10, lsq_11, lsl_11, lsq_12, lsl_12, lsq_13, lsl_13, lsq_14, lsl_14, tk_0, tk_1, tk_2, tk_3, tk_4, tk_5, tk_6, tk_7, tk_8, cs_n, cs_i, cs_l, cs_r, cs_u, nl, rt_s, rt_n, CST1, Nat.reduceAdd, Nat.reduceLeDiff, va_rf, rtOk, Bool.false_eq_true, Bool.true_eq_false, if_false, if_true, ite_true, ite_false, true_and, and_true, eq_self, ne_eq, not_false_eq_true, not_true_eq_false, false_implies, true_implies, and_self, reduceCtorEq, Nat.reduceBEq, Bool.or_false, Bool.false_or, Bool.or_true, Bool.true_or, if1_0, if1_1, if1_01, one_01, zer_01, lg_cmp_ge, lg_cmp_le, lg_cmp_gt, lg_cmp_lt, lg_cmp_eq, Classical.not_not, SHm hS, SHr hS, z10]
      exact hk4
  · refine ⟨by omega, c_talkX hS (by omega) i1 i3 hx ?_⟩
    simp only [D_X11_at, N_X11_at, ↓reduceIte, vcS, vcC, vcI, gtF, ptF, inS, inV, fv0, fv1, fv2, fv3, fw0, fw1, lg_0, lg_1, lg_2, lg_3, lg_4, lg_5, lg_6, lg_7, lg_8, lg_9, lg_10, lg_11, lg_12, lg_13, lg_14, lsq_0, lsl_0, lsq_1, lsl_1, lsq_2, lsl_2, lsq_3, lsl_3, lsq_4, lsl_4, lsq_5, lsl_5, lsq_6, lsl_6, lsq_7, lsl_7, lsq_8, lsl_8, lsq_9, lsl_9, lsq_10, lsl_10, lsq_11, lsl_11, lsq_12, lsl_12, lsq_13, lsl_13, lsq_14, lsl_14, tk_0, tk_1, tk_2, tk_3, tk_4, tk_5, tk_6, tk_7, tk_8, cs_n, cs_i, cs_l, cs_r, cs_u, nl, rt_s, rt_n, CST1, Nat.reduceAdd, Nat.reduceLeDiff, va_rf, rtOk, Bool.false_eq_true, Bool.true_eq_false, if_false, if_true, ite_true, ite_false, true_and, and_true, eq_self, ne_eq, not_false_eq_true, not_true_eq_false, false_implies, true_implies, and_self, reduceCtorEq, Nat.reduceBEq, Bool.or_false, Bool.false_or, Bool.or_true, Bool.true_or, if1_0, if1_1, if1_01, one_01, zer_01, lg_cmp_ge, lg_cmp_le, lg_cmp_gt, lg_cmp_lt, lg_cmp_eq, Classical.not_not, SHm hS, SHr hS]
    exact hk1 (fun z => hx z.1)
set_option maxHeartbeats 4000000 in
set_option maxRecDepth 100000 in
theorem m_at {x r p : Int32} (hS : Sh mu ro) (hd : 3 ≤ d) (hI : I_tk sg T tb) (hk1 : ¬ okA T x p → K (some (.int (-1))) sg) (hk2 : okA T x p → ¬ (0 ≤ r.toInt ∧ r.toInt ≤ 1) → K (some (.int (-2))) sg) (hk3 : ∀ t q : Nat, t < T → x = nI t → q < 79 → p = nI q → (0 ≤ r.toInt ∧ r.toInt ≤ 1) → K (some (.int (if sg 55 t = 0 then byF r (sg 58 (80 * t + q)) (sg 59 (80 * t + q)) else -3))) sg) : aCall d 185 [.ref 48, .int x, .int r, .int p] n mu ro sg K := by
  obtain ⟨⟨i1, i2⟩, i3, i4, i5⟩ := id hI
  refine aCall_start (mL := 4) (cc := cX12_at) (o := 12) (ret := (some .int)) 0 (by decide) (by decide +kernel) rfl rfl rfl rfl (Nat.le_of_ble_eq_true rfl) (fun G hC hG => ?_)
  simp only [exL, List.cons_append, List.nil_append, rp_0, rp_1, rp_2, rp_3, rp_4, rp_5, rp_6, rp_7, rp_8, rp_9, rp_10, rp_11, List.append_nil]
  refine hG (fun _ => false) 60 _ _ _ _ (Nat.le_of_ble_eq_true rfl) ?_
  simp only [D_X12_at, N_X12_at, ↓reduceIte, vcS, vcC, vcI, gtF, ptF, inS, inV, fv0, fv1, fv2, fv3, fw0, fw1, lg_0, lg_1, lg_2, lg_3, lg_4, lg_5, lg_6, lg_7, lg_8, lg_9, lg_10, lg_11, lg_12, lg_13, lg_14, lsq_0, lsl_0, lsq_1, lsl_1, lsq_2, lsl_2, lsq_3, lsl_3, lsq_4, lsl_4, lsq_5, lsl_5, lsq_6, lsl_6, lsq_7, lsl_7, lsq_8, lsl_8, lsq_9, lsl_9, lsq_10, lsl_10, lsq_11, lsl_11, lsq_12, lsl_12, lsq_13, lsl_13, lsq_14, lsl_14, tk_0, tk_1, tk_2, tk_3, tk_4, tk_5, tk_6, tk_7, tk_8, cs_n, cs_i, cs_l, cs_r, cs_u, nl, rt_s, rt_n, CST1, Nat.reduceAdd, Nat.reduceLeDiff, va_rf, rtOk, Bool.false_eq_true, Bool.true_eq_false, if_false, if_true, ite_true, ite_false, true_and, and_true, eq_self, ne_eq, not_false_eq_true, not_true_eq_false, false_implies, true_implies, and_self, reduceCtorEq, Nat.reduceBEq, Bool.or_false, Bool.false_or, Bool.or_true, Bool.true_or, if1_0, if1_1, if1_01, one_01, zer_01, lg_cmp_ge, lg_cmp_le, lg_cmp_gt, lg_cmp_lt, lg_cmp_eq, Classical.not_not, SHm hS, SHr hS]
  refine ⟨by omega, m_noTalk hS (by omega) i2 i3 ?_⟩
  by_cases hx : 0 ≤ x.toInt ∧ x.toInt ≤ (T : Int) - 1
  · obtain ⟨t, ht', rfl⟩ := i_of (x := x) (N := 7) hx.1 (by omega) (by decide)
    have tt : (nI t).toInt = t := nI_toInt (by omega)
    have ht : t < T := by omega
    have et : (nI t).toNatClampNeg = t := nI_clamp (by omega)
    have vt : vp_in (nI t) 8 := vp_in_nI (by omega) (by decide)
    obtain ⟨k, e, k1, k2, k3, k4, k5, k6⟩ := t1_k (i4 t ht)
    have gg := (i4 t ht).2.2.2.2.2.2.2.2
    have hq := eq_true hx
    simp only [D_X12_at, N_X12_at, ↓reduceIte, vcS, vcC, vcI, gtF, ptF, inS, inV, fv0, fv1, fv2, fv3, fw0, fw1, lg_0, lg_1, lg_2, lg_3, lg_4, lg_5, lg_6, lg_7, lg_8, lg_9, lg_10, lg_11, lg_12, lg_13, lg_14, lsq_0, lsl_0, lsq_1, lsl_1, lsq_2, lsl_2, lsq_3, lsl_3, lsq_4, lsl_4, lsq_5, lsl_5, lsq_6, lsl_6, lsq_7, lsl_7, lsq_8, lsl_8, lsq_9, lsl_9, lsq_10, lsl_10, lsq_11, lsl_11, lsq_12, lsl_12, lsq_13, lsl_13, lsq_14, lsl_14, tk_0, tk_1, tk_2, tk_3, tk_4, tk_5, tk_6, tk_7, tk_8, cs_n, cs_i, cs_l, cs_r, cs_u, nl, rt_s, rt_n, CST1, Nat.reduceAdd, Nat.reduceLeDiff, va_rf, rtOk, Bool.false_eq_true, Bool.true_eq_false, if_false, if_true, ite_true, ite_false, true_and, and_true, eq_self, ne_eq, not_false_eq_true, not_true_eq_false, false_implies, true_implies, and_self, reduceCtorEq, Nat.reduceBEq, Bool.or_false, Bool.false_or, Bool.or_true, Bool.true_or, if1_0, if1_1, if1_01, one_01, zer_01, lg_cmp_ge, lg_cmp_le, lg_cmp_gt, lg_cmp_lt, lg_cmp_eq, Classical.not_not, SHm hS, SHr hS, hq]
    refine ⟨by omega, m_in ?_⟩
    simp only [D_X12_at, N_X12_at, ↓reduceIte, vcS, vcC, vcI, gtF, ptF, inS, inV, fv0, fv1, fv2, fv3, fw0, fw1, lg_0, lg_1, lg_2, lg_3, lg_4, lg_5, lg_6, lg_7, lg_8, lg_9, lg_10, lg_11, lg_12, lg_13, lg_14, lsq_0, lsl_0, lsq_1, lsl_1, lsq_2, lsl_2, lsq_3, lsl_3, lsq_4, lsl_4, lsq_5, lsl_5, lsq_6, lsl_6, lsq_7, lsl_7, lsq_8, lsl_8, lsq_9, lsl_9, lsq_10, lsl_10, lsq_11, lsl_11, lsq_12, lsl_12, lsq_13, lsl_13, lsq_14, lsl_14, tk_0, tk_1, tk_2, tk_3, tk_4, tk_5, tk_6, tk_7, tk_8, cs_n, cs_i, cs_l, cs_r, cs_u, nl, rt_s, rt_n, CST1, Nat.reduceAdd, Nat.reduceLeDiff, va_rf, rtOk, Bool.false_eq_true, Bool.true_eq_false, if_false, if_true, ite_true, ite_false, true_and, and_true, eq_self, ne_eq, not_false_eq_true, not_true_eq_false, false_implies, true_implies, and_self, reduceCtorEq, Nat.reduceBEq, Bool.or_false, Bool.false_or, Bool.or_true, Bool.true_or, if1_0, if1_1, if1_01, one_01, zer_01, lg_cmp_ge, lg_cmp_le, lg_cmp_gt, lg_cmp_lt, lg_cmp_eq, Classical.not_not, SHm hS, SHr hS, LIT2, toL]
    refine ⟨fun q1 => ⟨by omega, m_in ?_⟩, fun q1 => hk1 (fun z => q1 z.2)⟩
    simp only [D_X12_at, N_X12_at, ↓reduceIte, vcS, vcC, vcI, gtF, ptF, inS, inV, fv0, fv1, fv2, fv3, fw0, fw1, lg_0, lg_1, lg_2, lg_3, lg_4, lg_5, lg_6, lg_7, lg_8, lg_9, lg_10, lg_11, lg_12, lg_13, lg_14, lsq_0, lsl_0, lsq_1, lsl_1, lsq_2, lsl_2, lsq_3, lsl_3, lsq_4, lsl_4, lsq_5, lsl_5, lsq_6, lsl_6, lsq_7, lsl_7, lsq_8, lsl_8, lsq_9, lsl_9, lsq_10, lsl_10, lsq_11, lsl_11, lsq_12, lsl_12, lsq_13, lsl_13, lsq_14, lsl_14, tk_0, tk_1, tk_2, tk_3, tk_4, tk_5, tk_6, tk_7, tk_8, cs_n, cs_i, cs_l, cs_r, cs_u, nl, rt_s, rt_n, CST1, Nat.reduceAdd, Nat.reduceLeDiff, va_rf, rtOk, Bool.false_eq_true, Bool.true_eq_false, if_false, if_true, ite_true, ite_false, true_and, and_true, eq_self, ne_eq, not_false_eq_true, not_true_eq_false, false_implies, true_implies, and_self, reduceCtorEq, Nat.reduceBEq, Bool.or_false, Bool.false_or, Bool.or_true, Bool.true_or, if1_0, if1_1, if1_01, one_01, zer_01, lg_cmp_ge, lg_cmp_le, lg_cmp_gt, lg_cmp_lt, lg_cmp_eq, Classical.not_not, SHm hS, SHr hS, LIT2, toL, et, vt, k3, nI_le0 (a := k) (by omega)]
    refine ⟨fun q2 => ?_, fun q2 => hk2 ⟨hx, q1⟩ q2⟩
    obtain ⟨p', hp', rfl⟩ := i_of (x := p) (N := 78) q1.1 q1.2 (by decide)
    have hk4 := hk3 t p' ht rfl (by omega) rfl q2
    refine ⟨fun k0 => ⟨by omega, m_byteAt hS (by omega) (by omega) (gg p' (by omega)).2.2.2 ?_⟩, fun k0 => ?_⟩
    · rw [if_pos (by rw [k3, k0]; rfl)] at hk4
      simp only [D_X12_at, N_X12_at, ↓reduceIte, vcS, vcC, vcI, gtF, ptF, inS, inV, fv0, fv1, fv2, fv3, fw0, fw1, lg_0, lg_1, lg_2, lg_3, lg_4, lg_5, lg_6, lg_7, lg_8, lg_9, lg_10, lg_11, lg_12, lg_13, lg_14, lsq_0, lsl_0, lsq_1, lsl_1, lsq_2, lsl_2, lsq_3, lsl_3, lsq_4, lsl_4, lsq_5, lsl_5, lsq_6, lsl_6, lsq_7, lsl_7, lsq_8, lsl_8, lsq_9, lsl_9, lsq_10, lsl_10, lsq_11, lsl_11, lsq_12, lsl_12, lsq_13, lsl_13, lsq_14, lsl_14, tk_0, tk_1, tk_2, tk_3, tk_4, tk_5, tk_6, tk_7, tk_8, cs_n, cs_i, cs_l, cs_r, cs_u, nl, rt_s, rt_n, CST1, Nat.reduceAdd, Nat.reduceLeDiff, va_rf, rtOk, Bool.false_eq_true, Bool.true_eq_false, if_false, if_true, ite_true, ite_false, true_and, and_true, eq_self, ne_eq, not_false_eq_true, not_true_eq_false, false_implies, true_implies, and_self, reduceCtorEq, Nat.reduceBEq, Bool.or_false, Bool.false_or, Bool.or_true, Bool.true_or, if1_0, if1_1, if1_01, one_01, zer_01, lg_cmp_ge, lg_cmp_le, lg_cmp_gt, lg_cmp_lt, lg_cmp_eq, Classical.not_not, SHm hS, SHr hS]
      exact hk4
    · rw [if_neg (by rw [k3]; exact nI_ne0 (by omega) (by omega))] at hk4
      exact hk4
  · have hq := eq_false hx
    simp only [D_X12_at, N_X12_at, ↓reduceIte, vcS, vcC, vcI, gtF, ptF, inS, inV, fv0, fv1, fv2, fv3, fw0, fw1, lg_0, lg_1, lg_2, lg_3, lg_4, lg_5, lg_6, lg_7, lg_8, lg_9, lg_10, lg_11, lg_12, lg_13, lg_14, lsq_0, lsl_0, lsq_1, lsl_1, lsq_2, lsl_2, lsq_3, lsl_3, lsq_4, lsl_4, lsq_5, lsl_5, lsq_6, lsl_6, lsq_7, lsl_7, lsq_8, lsl_8, lsq_9, lsl_9, lsq_10, lsl_10, lsq_11, lsl_11, lsq_12, lsl_12, lsq_13, lsl_13, lsq_14, lsl_14, tk_0, tk_1, tk_2, tk_3, tk_4, tk_5, tk_6, tk_7, tk_8, cs_n, cs_i, cs_l, cs_r, cs_u, nl, rt_s, rt_n, CST1, Nat.reduceAdd, Nat.reduceLeDiff, va_rf, rtOk, Bool.false_eq_true, Bool.true_eq_false, if_false, if_true, ite_true, ite_false, true_and, and_true, eq_self, ne_eq, not_false_eq_true, not_true_eq_false, false_implies, true_implies, and_self, reduceCtorEq, Nat.reduceBEq, Bool.or_false, Bool.false_or, Bool.or_true, Bool.true_or, if1_0, if1_1, if1_01, one_01, zer_01, lg_cmp_ge, lg_cmp_le, lg_cmp_gt, lg_cmp_lt, lg_cmp_eq, Classical.not_not, SHm hS, SHr hS, hq, z10]
    exact hk1 (fun z => hx z.1)
set_option maxHeartbeats 4000000 in
set_option maxRecDepth 100000 in
theorem b_at {x r p : Int32} (hS : Sh mu ro) (hd : 3 ≤ d) (hT : S_tk mu ro n T tb) (hI : I_tk sg T tb) (hk : ∀ r, K r sg) : aCall d 103 [.ref 0, .int x, .int r, .int p] n mu ro sg (fun r1 sg1 => aCall d 185 [.ref 48, .int x, .int r, .int p] n mu ro sg1 (fun r2 sg2 => r1 = r2 ∧ K r1 sg2)) := by
  have h8 := hI.2.1
  have mc : ∀ t q : Nat, t < T → x = nI t → q < 79 → p = nI q → okA T x p := fun t q ht h hq h2 => ⟨by rw [h, nI_toInt (by omega)]; omega, by rw [h2, nI_toInt (by omega)]; omega⟩
  refine c_at hS hd hT hI (fun q => ?_) (fun q q2 => ?_) (fun t q ht hx hq hp hr => ?_)
  · exact m_at hS hd hI (fun _ => ⟨rfl, hk _⟩) (fun z => absurd z q) (fun t q' ht h hq h2 => absurd (mc t q' ht h hq h2) q)
  · exact m_at hS hd hI (fun z => absurd q z) (fun _ _ => ⟨rfl, hk _⟩) (fun t q' ht h hq h2 z => absurd z q2)
  · refine m_at hS hd hI (fun z => absurd (mc t q ht hx hq hp) z) (fun _ z => absurd hr z) (fun t2 q2 ht2 hx2 hq2 hp2 _ => ?_)
    have z1 : t = t2 := nI_inj (by omega) (by omega) hx hx2
    have z2 : q = q2 := nI_inj (by omega) (by omega) hp hp2
    subst z1 z2
    exact ⟨rfl, hk _⟩
end H56
