/-! part 75: chain on both sides -/
section H75
variable {d n N T Q F : Nat} {mu : aM} {ro : aR} {sg σ : aS} {K : Option Value → aS → Prop} {v rw_ vd mc tk lk : Nat → Int32} {ft : Nat → Nat} {tb rb : Nat → Nat}
theorem rd_r {w : Nat} : ∀ (m x s z : Nat) (sp : Int32) (lk : Nat → Int32), x + m = w → (s = 0 → z < 5) → z ≤ 5 → (s ≠ 0 → 1 ≤ z) → ((rdF v Q w m x s z sp lk).1 = none → 1 ≤ (rdF v Q w m x s z sp lk).2.1 ∧ (rdF v Q w m x s z sp lk).2.1 ≤ 5) ∧ ∀ y, (rdF v Q w m x s z sp lk).1 = some y → y ≤ w
  | 0, x, s, z, sp, lk, hx, h0, h5, h1 => by
    rw [rdF]
    refine ⟨fun h => ?_, fun y h => ?_⟩
    · by_cases q : 2 < s
      · exact ⟨h1 (by omega), h5⟩
      · simp only [if_neg q] at h
        exact absurd h (by simp)
    · by_cases q : 2 < s
      · simp only [if_pos q] at h
        exact absurd h (by simp)
      · simp only [if_neg q] at h
        have := Option.some.inj h
        omega
  | m + 1, x, s, z, sp, lk, hx, h0, h5, h1 => by
    rw [rdF]
    by_cases a : s = 0 ∧ lkO Q (v x)
    · rw [if_pos a]
      have := h0 a.1
      exact rd_r m (x + 1) 1 (z + 1) sp _ (by omega) (by omega) (by omega) (by omega)
    · rw [if_neg a]
      by_cases b : s = 1 ∧ v x = 44 ∧ z < 5
      · rw [if_pos b]
        have := h1 (by omega)
        exact rd_r m (x + 1) 0 z sp _ (by omega) (fun _ => b.2.2) (by omega) (fun q => absurd rfl q)
      · rw [if_neg b]
        by_cases c : s = 1 ∧ v x = 64
        · rw [if_pos c]
          have := h1 (by omega)
          exact rd_r m (x + 1) 2 z sp _ (by omega) (by omega) (by omega) (fun _ => this)
        · rw [if_neg c]
          by_cases e : (2 ≤ s ∧ s < 5) ∧ dgO (v x)
          · rw [if_pos e]
            have := h1 (by omega)
            exact rd_r m (x + 1) (s + 1) z _ _ (by omega) (by omega) (by omega) (fun _ => this)
          · rw [if_neg e]
            refine ⟨fun h => absurd h (by simp), fun y h => ?_⟩
            have := Option.some.inj h
            omega
def cnR (rw_ vd mc tk : Nat → Int32) (F : Nat) (o : Option Nat × Nat × Int32 × (Nat → Int32)) : Int32 := match o.1 with
  | some x => -100 - nI x
  | none => mwF rw_ vd mc tk o.2.2.2 F o.2.1 o.2.2.1 F
theorem cn_s {o : Option Nat × Nat × Int32 × (Nat → Int32)} {x : Nat} (h : o.1 = some x) : cnR rw_ vd mc tk F o = -100 - nI x := by rw [cnR, h]
theorem cn_n {o : Option Nat × Nat × Int32 × (Nat → Int32)} (h : o.1 = none) : cnR rw_ vd mc tk F o = mwF rw_ vd mc tk o.2.2.2 F o.2.1 o.2.2.1 F := by rw [cnR, h]
theorem M_ch.p {s s' : aS} (h : M_ch s F rw_ vd mc tk ft) (h1 : s' 48 21 = s 48 21) (h2 : ∀ a, 56 ≤ a → a ≤ 68 → ∀ k, s' a k = s a k) : M_ch s' F rw_ vd mc tk ft := by
  obtain ⟨g1, g2, g3⟩ := h
  have e : ∀ a, 56 ≤ a → a ≤ 68 → s' a = s a := fun a ha hb => funext (h2 a ha hb)
  refine ⟨by rw [h1]; exact g1, g2, fun f hf9 => ?_⟩
  rw [e 65 (by decide) (by decide), e 66 (by decide) (by decide), e 56 (by decide) (by decide), e 67 (by decide) (by decide), e 68 (by decide) (by decide)]
  exact g3 f hf9
abbrev cnO (s : aS) (Q k i w : Nat) : Option Nat × Nat × Int32 × (Nat → Int32) := rdF (fun j => s 87 (60 * k + (i + j))) Q w w 0 0 0 0 (fun _ => 0)
set_option maxHeartbeats 4000000 in
set_option maxRecDepth 100000 in
theorem c_chain {x l i w : Int32} (hS : Sh mu ro) (hd : 6 ≤ d) (hI : I_sh sg) (hQ12 : sg 0 12 = nI Q) (hQ : Q ≤ 8) (hF : sg 15 5 = nI F) (hF2 : F ≤ 40) (hf : ∀ f, f < F → sg 16 f = rw_ f ∧ sg 18 f = mc f ∧ sg 19 f = tk f ∧ sg 20 f = vd f) (hk1 : ∀ r f : Int32, tkV sg x l i w = some (r, f) → K (some (.int r)) (s2 sg 0 14 f)) (hk2 : ∀ k i' w' : Nat, tkV sg x l i w = none → x = nI k → i = nI i' → w = nI w' → tkN sg k i' w' → ∀ σ, (∀ a k, a ≠ 21 → a ≠ 22 → σ a k = s2 sg 0 14 0 a k) → K (some (.int (cnR rw_ vd mc tk F (cnO sg Q k i' w')))) σ) : aCall d 111 [.ref 0, .int x, .int l, .int i, .int w] n mu ro sg K := by
  have r12 : s2 sg 0 14 0 0 12 = nI Q := by rw [s2_n (by omega)]; exact hQ12
  refine aCall_start (mL := 8) (cc := cX11_chain) (o := 11) (ret := (some .int)) 3 (by decide) (by decide +kernel) rfl rfl rfl rfl (Nat.le_of_ble_eq_true rfl) (fun G hC hG => ?_)
  simp only [exL, List.cons_append, List.nil_append, rp_0, rp_1, rp_2, rp_3, rp_4, rp_5, rp_6, rp_7, rp_8, rp_9, rp_10, rp_11, List.append_nil]
  refine hG (fun _ => false) 80 _ _ _ _ (Nat.le_of_ble_eq_true rfl) ?_
  simp only [D_X11_chain, N_X11_chain, ↓reduceIte, vcS, vcC, vcI, gtF, ptF, inS, inV, fv0, fv1, fv2, fv3, fw0, fw1, lg_0, lg_1, lg_2, lg_3, lg_4, lg_5, lg_6, lg_7, lg_8, lg_9, lg_10, lg_11, lg_12, lg_13, lg_14, lsq_0, lsl_0, lsq_1, lsl_1, lsq_2, lsl_2, lsq_3, lsl_3, lsq_4, lsl_4, lsq_5, lsl_5, lsq_6, lsl_6, lsq_7, lsl_7, lsq_8, lsl_8, lsq_9, lsl_9, lsq_10, lsl_10, lsq_11, lsl_11, lsq_12, lsl_12, lsq_13, lsl_13, lsq_14, lsl_14, tk_0, tk_1, tk_2, tk_3, tk_4, tk_5, tk_6, tk_7, tk_8, cs_n, cs_i, cs_l, cs_r, cs_u, nl, rt_s, rt_n, CST1, Nat.reduceAdd, Nat.reduceLeDiff, va_rf, rtOk, Bool.false_eq_true, Bool.true_eq_false, if_false, if_true, ite_true, ite_false, true_and, and_true, eq_self, ne_eq, not_false_eq_true, not_true_eq_false, false_implies, true_implies, and_self, reduceCtorEq, Nat.reduceBEq, Bool.or_false, Bool.false_or, Bool.or_true, Bool.true_or, if1_0, if1_1, if1_01, one_01, zer_01, lg_cmp_ge, lg_cmp_le, lg_cmp_gt, lg_cmp_lt, lg_cmp_eq, Classical.not_not, SHm hS, SHr hS]
  by_cases hok : 0 ≤ x.toInt ∧ x.toInt ≤ 3
  · obtain ⟨k, hk4, rfl⟩ := k_of hok
    refine ⟨by omega, c_sheetN hS (by omega) hk4 ?_⟩
    simp only [D_X11_chain, N_X11_chain, ↓reduceIte, vcS, vcC, vcI, gtF, ptF, inS, inV, fv0, fv1, fv2, fv3, fw0, fw1, lg_0, lg_1, lg_2, lg_3, lg_4, lg_5, lg_6, lg_7, lg_8, lg_9, lg_10, lg_11, lg_12, lg_13, lg_14, lsq_0, lsl_0, lsq_1, lsl_1, lsq_2, lsl_2, lsq_3, lsl_3, lsq_4, lsl_4, lsq_5, lsl_5, lsq_6, lsl_6, lsq_7, lsl_7, lsq_8, lsl_8, lsq_9, lsl_9, lsq_10, lsl_10, lsq_11, lsl_11, lsq_12, lsl_12, lsq_13, lsl_13, lsq_14, lsl_14, tk_0, tk_1, tk_2, tk_3, tk_4, tk_5, tk_6, tk_7, tk_8, cs_n, cs_i, cs_l, cs_r, cs_u, nl, rt_s, rt_n, CST1, Nat.reduceAdd, Nat.reduceLeDiff, va_rf, rtOk, Bool.false_eq_true, Bool.true_eq_false, if_false, if_true, ite_true, ite_false, true_and, and_true, eq_self, ne_eq, not_false_eq_true, not_true_eq_false, false_implies, true_implies, and_self, reduceCtorEq, Nat.reduceBEq, Bool.or_false, Bool.false_or, Bool.or_true, Bool.true_or, if1_0, if1_1, if1_01, one_01, zer_01, lg_cmp_ge, lg_cmp_le, lg_cmp_gt, lg_cmp_lt, lg_cmp_eq, Classical.not_not, SHm hS, SHr hS]
    refine ⟨by omega, c_agN hS (by omega) hI hk4 (fun r f h1 h2 => ?_) (fun i' w' h1 h2 h3 h4 => ?_)⟩
    · have hq : (r = 0) = False := eq_false (by ((try simp only [i_le, i_lt, i_eq, l_le, l_lt, l_eq, i_ne, l_ne, toL, l_add, l_sub1, LIT1, LIT2, Int.reduceNeg, ge_iff_le, gt_iff_lt] at *); omega))
      simp only [D_X11_chain, N_X11_chain, ↓reduceIte, vcS, vcC, vcI, gtF, ptF, inS, inV, fv0, fv1, fv2, fv3, fw0, fw1, lg_0, lg_1, lg_2, lg_3, lg_4, lg_5, lg_6, lg_7, lg_8, lg_9, lg_10, lg_11, lg_12, lg_13, lg_14, lsq_0, lsl_0, lsq_1, lsl_1, lsq_2, lsl_2, lsq_3, lsl_3, lsq_4, lsl_4, lsq_5, lsl_5, lsq_6, lsl_6, lsq_7, lsl_7, lsq_8, lsl_8, lsq_9, lsl_9, lsq_10, lsl_10, lsq_11, lsl_11, lsq_12, lsl_12, lsq_13, lsl_13, lsq_14, lsl_14, tk_0, tk_1, tk_2, tk_3, tk_4, tk_5, tk_6, tk_7, tk_8, cs_n, cs_i, cs_l, cs_r, cs_u, nl, rt_s, rt_n, CST1, Nat.reduceAdd, Nat.reduceLeDiff, va_rf, rtOk, Bool.false_eq_true, Bool.true_eq_false, if_false, if_true, ite_true, ite_false, true_and, and_true, eq_self, ne_eq, not_false_eq_true, not_true_eq_false, false_implies, true_implies, and_self, reduceCtorEq, Nat.reduceBEq, Bool.or_false, Bool.false_or, Bool.or_true, Bool.true_or, if1_0, if1_1, if1_01, one_01, zer_01, lg_cmp_ge, lg_cmp_le, lg_cmp_gt, lg_cmp_lt, lg_cmp_eq, Classical.not_not, SHm hS, SHr hS, ↓im_F hq, ↓im_FN hq, hq]
      exact hk1 r f h1
    · have hk9 := hk2 k i' w' h1 rfl h2 h3 h4
      obtain ⟨-, h5, h6⟩ := id h4
      subst h2 h3
      simp only [D_X11_chain, N_X11_chain, ↓reduceIte, vcS, vcC, vcI, gtF, ptF, inS, inV, fv0, fv1, fv2, fv3, fw0, fw1, lg_0, lg_1, lg_2, lg_3, lg_4, lg_5, lg_6, lg_7, lg_8, lg_9, lg_10, lg_11, lg_12, lg_13, lg_14, lsq_0, lsl_0, lsq_1, lsl_1, lsq_2, lsl_2, lsq_3, lsl_3, lsq_4, lsl_4, lsq_5, lsl_5, lsq_6, lsl_6, lsq_7, lsl_7, lsq_8, lsl_8, lsq_9, lsl_9, lsq_10, lsl_10, lsq_11, lsl_11, lsq_12, lsl_12, lsq_13, lsl_13, lsq_14, lsl_14, tk_0, tk_1, tk_2, tk_3, tk_4, tk_5, tk_6, tk_7, tk_8, cs_n, cs_i, cs_l, cs_r, cs_u, nl, rt_s, rt_n, CST1, Nat.reduceAdd, Nat.reduceLeDiff, va_rf, rtOk, Bool.false_eq_true, Bool.true_eq_false, if_false, if_true, ite_true, ite_false, true_and, and_true, eq_self, ne_eq, not_false_eq_true, not_true_eq_false, false_implies, true_implies, and_self, reduceCtorEq, Nat.reduceBEq, Bool.or_false, Bool.false_or, Bool.or_true, Bool.true_or, if1_0, if1_1, if1_01, one_01, zer_01, lg_cmp_ge, lg_cmp_le, lg_cmp_gt, lg_cmp_lt, lg_cmp_eq, Classical.not_not, SHm hS, SHr hS, r12]
      refine ⟨by omega, c_read (v := fun j => sg 87 (60 * k + (i' + j))) (lk0 := fun _ => 0) hS (by omega) hk4 h5 hQ (fun j hj => by rw [s2_n (by omega)]; exact h6 j hj) (fun σ f1 f2 => ?_)⟩
      have rr := rd_r (v := fun j => sg 87 (60 * k + (i' + j))) (Q := Q) (w := w') w' 0 0 0 0 (fun _ => 0) (by omega) (fun _ => by omega) (by omega) (fun q => absurd rfl q)
      obtain ⟨o, ho⟩ : ∃ o, o = rdF (fun j => sg 87 (60 * k + (i' + j))) Q w' w' 0 0 0 0 (fun _ => 0) := ⟨_, rfl⟩
      have hk8 : K (some (.int (cnR rw_ vd mc tk F o))) σ := by rw [ho]; exact hk9 σ f1
      rw [← ho] at f2 rr ⊢
      cases e : o.1 with
      | some y =>
        have hy := rr.2 y e
        rw [cn_s e] at hk8
        have e2 : rdB (some y) = nI y := rfl
        have z9 : (nI y = -9) = False := nI_n9 (by omega)
        rw [e2]
        simp only [D_X11_chain, N_X11_chain, ↓reduceIte, vcS, vcC, vcI, gtF, ptF, inS, inV, fv0, fv1, fv2, fv3, fw0, fw1, lg_0, lg_1, lg_2, lg_3, lg_4, lg_5, lg_6, lg_7, lg_8, lg_9, lg_10, lg_11, lg_12, lg_13, lg_14, lsq_0, lsl_0, lsq_1, lsl_1, lsq_2, lsl_2, lsq_3, lsl_3, lsq_4, lsl_4, lsq_5, lsl_5, lsq_6, lsl_6, lsq_7, lsl_7, lsq_8, lsl_8, lsq_9, lsl_9, lsq_10, lsl_10, lsq_11, lsl_11, lsq_12, lsl_12, lsq_13, lsl_13, lsq_14, lsl_14, tk_0, tk_1, tk_2, tk_3, tk_4, tk_5, tk_6, tk_7, tk_8, cs_n, cs_i, cs_l, cs_r, cs_u, nl, rt_s, rt_n, CST1, Nat.reduceAdd, Nat.reduceLeDiff, va_rf, rtOk, Bool.false_eq_true, Bool.true_eq_false, if_false, if_true, ite_true, ite_false, true_and, and_true, eq_self, ne_eq, not_false_eq_true, not_true_eq_false, false_implies, true_implies, and_self, reduceCtorEq, Nat.reduceBEq, Bool.or_false, Bool.false_or, Bool.or_true, Bool.true_or, if1_0, if1_1, if1_01, one_01, zer_01, lg_cmp_ge, lg_cmp_le, lg_cmp_gt, lg_cmp_lt, lg_cmp_eq, Classical.not_not, SHm hS, SHr hS, z9]
        exact hk8
      | none =>
        have hz := rr.1 e
        rw [cn_n e] at hk8
        have z9 : (rdB none = -9) = True := eq_true rfl
        simp only [D_X11_chain, N_X11_chain, ↓reduceIte, vcS, vcC, vcI, gtF, ptF, inS, inV, fv0, fv1, fv2, fv3, fw0, fw1, lg_0, lg_1, lg_2, lg_3, lg_4, lg_5, lg_6, lg_7, lg_8, lg_9, lg_10, lg_11, lg_12, lg_13, lg_14, lsq_0, lsl_0, lsq_1, lsl_1, lsq_2, lsl_2, lsq_3, lsl_3, lsq_4, lsl_4, lsq_5, lsl_5, lsq_6, lsl_6, lsq_7, lsl_7, lsq_8, lsl_8, lsq_9, lsl_9, lsq_10, lsl_10, lsq_11, lsl_11, lsq_12, lsl_12, lsq_13, lsl_13, lsq_14, lsl_14, tk_0, tk_1, tk_2, tk_3, tk_4, tk_5, tk_6, tk_7, tk_8, cs_n, cs_i, cs_l, cs_r, cs_u, nl, rt_s, rt_n, CST1, Nat.reduceAdd, Nat.reduceLeDiff, va_rf, rtOk, Bool.false_eq_true, Bool.true_eq_false, if_false, if_true, ite_true, ite_false, true_and, and_true, eq_self, ne_eq, not_false_eq_true, not_true_eq_false, false_implies, true_implies, and_self, reduceCtorEq, Nat.reduceBEq, Bool.or_false, Bool.false_or, Bool.or_true, Bool.true_or, if1_0, if1_1, if1_01, one_01, zer_01, lg_cmp_ge, lg_cmp_le, lg_cmp_gt, lg_cmp_lt, lg_cmp_eq, Classical.not_not, SHm hS, SHr hS, z9]
        obtain ⟨g1, g2, g3⟩ := f2
        refine ⟨by omega, c_machinesWith (rw_ := rw_) (vd := vd) (mc := mc) (tk := tk) (lk := o.2.2.2) (F := F) hS (by omega) (by rw [f1 15 5 (by omega) (by omega), s2_n (by omega)]; exact hF) hF2 (fun f hf9 => ?_) g1 hz g3 g2 ?_⟩
        · rw [f1 16 f (by omega) (by omega), f1 18 f (by omega) (by omega), f1 19 f (by omega) (by omega), f1 20 f (by omega) (by omega), s2_n (by omega), s2_n (by omega), s2_n (by omega), s2_n (by omega)]
          exact hf f hf9
        · simp only [D_X11_chain, N_X11_chain, ↓reduceIte, vcS, vcC, vcI, gtF, ptF, inS, inV, fv0, fv1, fv2, fv3, fw0, fw1, lg_0, lg_1, lg_2, lg_3, lg_4, lg_5, lg_6, lg_7, lg_8, lg_9, lg_10, lg_11, lg_12, lg_13, lg_14, lsq_0, lsl_0, lsq_1, lsl_1, lsq_2, lsl_2, lsq_3, lsl_3, lsq_4, lsl_4, lsq_5, lsl_5, lsq_6, lsl_6, lsq_7, lsl_7, lsq_8, lsl_8, lsq_9, lsl_9, lsq_10, lsl_10, lsq_11, lsl_11, lsq_12, lsl_12, lsq_13, lsl_13, lsq_14, lsl_14, tk_0, tk_1, tk_2, tk_3, tk_4, tk_5, tk_6, tk_7, tk_8, cs_n, cs_i, cs_l, cs_r, cs_u, nl, rt_s, rt_n, CST1, Nat.reduceAdd, Nat.reduceLeDiff, va_rf, rtOk, Bool.false_eq_true, Bool.true_eq_false, if_false, if_true, ite_true, ite_false, true_and, and_true, eq_self, ne_eq, not_false_eq_true, not_true_eq_false, false_implies, true_implies, and_self, reduceCtorEq, Nat.reduceBEq, Bool.or_false, Bool.false_or, Bool.or_true, Bool.true_or, if1_0, if1_1, if1_01, one_01, zer_01, lg_cmp_ge, lg_cmp_le, lg_cmp_gt, lg_cmp_lt, lg_cmp_eq, Classical.not_not, SHm hS, SHr hS]
          exact hk8
  · refine ⟨by omega, c_sheetX hS (by omega) hok ?_⟩
    simp only [D_X11_chain, N_X11_chain, ↓reduceIte, vcS, vcC, vcI, gtF, ptF, inS, inV, fv0, fv1, fv2, fv3, fw0, fw1, lg_0, lg_1, lg_2, lg_3, lg_4, lg_5, lg_6, lg_7, lg_8, lg_9, lg_10, lg_11, lg_12, lg_13, lg_14, lsq_0, lsl_0, lsq_1, lsl_1, lsq_2, lsl_2, lsq_3, lsl_3, lsq_4, lsl_4, lsq_5, lsl_5, lsq_6, lsl_6, lsq_7, lsl_7, lsq_8, lsl_8, lsq_9, lsl_9, lsq_10, lsl_10, lsq_11, lsl_11, lsq_12, lsl_12, lsq_13, lsl_13, lsq_14, lsl_14, tk_0, tk_1, tk_2, tk_3, tk_4, tk_5, tk_6, tk_7, tk_8, cs_n, cs_i, cs_l, cs_r, cs_u, nl, rt_s, rt_n, CST1, Nat.reduceAdd, Nat.reduceLeDiff, va_rf, rtOk, Bool.false_eq_true, Bool.true_eq_false, if_false, if_true, ite_true, ite_false, true_and, and_true, eq_self, ne_eq, not_false_eq_true, not_true_eq_false, false_implies, true_implies, and_self, reduceCtorEq, Nat.reduceBEq, Bool.or_false, Bool.false_or, Bool.or_true, Bool.true_or, if1_0, if1_1, if1_01, one_01, zer_01, lg_cmp_ge, lg_cmp_le, lg_cmp_gt, lg_cmp_lt, lg_cmp_eq, Classical.not_not, SHm hS, SHr hS]
    refine ⟨by omega, c_agX ?_⟩
    simp only [D_X11_chain, N_X11_chain, ↓reduceIte, vcS, vcC, vcI, gtF, ptF, inS, inV, fv0, fv1, fv2, fv3, fw0, fw1, lg_0, lg_1, lg_2, lg_3, lg_4, lg_5, lg_6, lg_7, lg_8, lg_9, lg_10, lg_11, lg_12, lg_13, lg_14, lsq_0, lsl_0, lsq_1, lsl_1, lsq_2, lsl_2, lsq_3, lsl_3, lsq_4, lsl_4, lsq_5, lsl_5, lsq_6, lsl_6, lsq_7, lsl_7, lsq_8, lsl_8, lsq_9, lsl_9, lsq_10, lsl_10, lsq_11, lsl_11, lsq_12, lsl_12, lsq_13, lsl_13, lsq_14, lsl_14, tk_0, tk_1, tk_2, tk_3, tk_4, tk_5, tk_6, tk_7, tk_8, cs_n, cs_i, cs_l, cs_r, cs_u, nl, rt_s, rt_n, CST1, Nat.reduceAdd, Nat.reduceLeDiff, va_rf, rtOk, Bool.false_eq_true, Bool.true_eq_false, if_false, if_true, ite_true, ite_false, true_and, and_true, eq_self, ne_eq, not_false_eq_true, not_true_eq_false, false_implies, true_implies, and_self, reduceCtorEq, Nat.reduceBEq, Bool.or_false, Bool.false_or, Bool.or_true, Bool.true_or, if1_0, if1_1, if1_01, one_01, zer_01, lg_cmp_ge, lg_cmp_le, lg_cmp_gt, lg_cmp_lt, lg_cmp_eq, Classical.not_not, SHm hS, SHr hS]
    exact hk1 (-1) 0 (tkV_X hok)
set_option maxHeartbeats 4000000 in
set_option maxRecDepth 100000 in
theorem m_chain {x l i w : Int32} (hS : Sh mu ro) (hd : 6 ≤ d) (hz : ∀ k, k < 4 → (sg 85 k).toInt ≤ 60) (h18 : sg 48 18 = nI Q) (hQ : Q ≤ 8) (hM : M_ch sg F rw_ vd mc tk ft) (hk1 : ∀ r f : Int32, tkV sg x l i w = some (r, f) → K (some (.int r)) (s2 sg 48 0 f)) (hk2 : ∀ k i' w' : Nat, tkV sg x l i w = none → x = nI k → i = nI i' → w = nI w' → k < 4 → i' + w' ≤ 60 → ∀ σ, (∀ a k, a ≠ 69 → ¬ (a = 48 ∧ (k = 0 ∨ k = 26 ∨ k = 28 ∨ k = 129 ∨ k = 229)) → σ a k = sg a k) → σ 48 0 = 0 → K (some (.int (cnR rw_ vd mc tk F (cnO sg Q k i' w')))) σ) : aCall d 199 [.ref 48, .int x, .int l, .int i, .int w] n mu ro sg K := by
  refine aCall_start (mL := 10) (cc := cX12_chain) (o := 12) (ret := (some .int)) 5 (by decide) (by decide +kernel) rfl rfl rfl rfl (Nat.le_of_ble_eq_true rfl) (fun G hC hG => ?_)
  simp only [exL, List.cons_append, List.nil_append, rp_0, rp_1, rp_2, rp_3, rp_4, rp_5, rp_6, rp_7, rp_8, rp_9, rp_10, rp_11, List.append_nil]
  refine hG (fun q => q == 68) 80 _ _ _ _ (Nat.le_of_ble_eq_true rfl) ?_
  simp only [D_X12_chain, N_X12_chain, ↓reduceIte, vcS, vcC, vcI, gtF, ptF, inS, inV, fv0, fv1, fv2, fv3, fw0, fw1, lg_0, lg_1, lg_2, lg_3, lg_4, lg_5, lg_6, lg_7, lg_8, lg_9, lg_10, lg_11, lg_12, lg_13, lg_14, lsq_0, lsl_0, lsq_1, lsl_1, lsq_2, lsl_2, lsq_3, lsl_3, lsq_4, lsl_4, lsq_5, lsl_5, lsq_6, lsl_6, lsq_7, lsl_7, lsq_8, lsl_8, lsq_9, lsl_9, lsq_10, lsl_10, lsq_11, lsl_11, lsq_12, lsl_12, lsq_13, lsl_13, lsq_14, lsl_14, tk_0, tk_1, tk_2, tk_3, tk_4, tk_5, tk_6, tk_7, tk_8, cs_n, cs_i, cs_l, cs_r, cs_u, nl, rt_s, rt_n, CST1, Nat.reduceAdd, Nat.reduceLeDiff, va_rf, rtOk, Bool.false_eq_true, Bool.true_eq_false, if_false, if_true, ite_true, ite_false, true_and, and_true, eq_self, ne_eq, not_false_eq_true, not_true_eq_false, false_implies, true_implies, and_self, reduceCtorEq, Nat.reduceBEq, Bool.or_false, Bool.false_or, Bool.or_true, Bool.true_or, if1_0, if1_1, if1_01, one_01, zer_01, lg_cmp_ge, lg_cmp_le, lg_cmp_gt, lg_cmp_lt, lg_cmp_eq, Classical.not_not, SHm hS, SHr hS]
  by_cases hok : 0 ≤ x.toInt ∧ x.toInt ≤ 3
  · obtain ⟨k, hk4, rfl⟩ := k_of hok
    refine ⟨by omega, m_noSheetN (by omega) hk4 ?_⟩
    simp only [D_X12_chain, N_X12_chain, ↓reduceIte, vcS, vcC, vcI, gtF, ptF, inS, inV, fv0, fv1, fv2, fv3, fw0, fw1, lg_0, lg_1, lg_2, lg_3, lg_4, lg_5, lg_6, lg_7, lg_8, lg_9, lg_10, lg_11, lg_12, lg_13, lg_14, lsq_0, lsl_0, lsq_1, lsl_1, lsq_2, lsl_2, lsq_3, lsl_3, lsq_4, lsl_4, lsq_5, lsl_5, lsq_6, lsl_6, lsq_7, lsl_7, lsq_8, lsl_8, lsq_9, lsl_9, lsq_10, lsl_10, lsq_11, lsl_11, lsq_12, lsl_12, lsq_13, lsl_13, lsq_14, lsl_14, tk_0, tk_1, tk_2, tk_3, tk_4, tk_5, tk_6, tk_7, tk_8, cs_n, cs_i, cs_l, cs_r, cs_u, nl, rt_s, rt_n, CST1, Nat.reduceAdd, Nat.reduceLeDiff, va_rf, rtOk, Bool.false_eq_true, Bool.true_eq_false, if_false, if_true, ite_true, ite_false, true_and, and_true, eq_self, ne_eq, not_false_eq_true, not_true_eq_false, false_implies, true_implies, and_self, reduceCtorEq, Nat.reduceBEq, Bool.or_false, Bool.false_or, Bool.or_true, Bool.true_or, if1_0, if1_1, if1_01, one_01, zer_01, lg_cmp_ge, lg_cmp_le, lg_cmp_gt, lg_cmp_lt, lg_cmp_eq, Classical.not_not, SHm hS, SHr hS]
    refine ⟨by omega, m_bN hS (by omega) hk4 (fun r f h1 h2 => ?_) (fun h1 => ?_)⟩
    · have hq : (0 ≤ r) = False := eq_false (by ((try simp only [i_le, i_lt, i_eq, l_le, l_lt, l_eq, i_ne, l_ne, toL, l_add, l_sub1, LIT1, LIT2, Int.reduceNeg, ge_iff_le, gt_iff_lt] at *); omega))
      simp only [D_X12_chain, N_X12_chain, ↓reduceIte, vcS, vcC, vcI, gtF, ptF, inS, inV, fv0, fv1, fv2, fv3, fw0, fw1, lg_0, lg_1, lg_2, lg_3, lg_4, lg_5, lg_6, lg_7, lg_8, lg_9, lg_10, lg_11, lg_12, lg_13, lg_14, lsq_0, lsl_0, lsq_1, lsl_1, lsq_2, lsl_2, lsq_3, lsl_3, lsq_4, lsl_4, lsq_5, lsl_5, lsq_6, lsl_6, lsq_7, lsl_7, lsq_8, lsl_8, lsq_9, lsl_9, lsq_10, lsl_10, lsq_11, lsl_11, lsq_12, lsl_12, lsq_13, lsl_13, lsq_14, lsl_14, tk_0, tk_1, tk_2, tk_3, tk_4, tk_5, tk_6, tk_7, tk_8, cs_n, cs_i, cs_l, cs_r, cs_u, nl, rt_s, rt_n, CST1, Nat.reduceAdd, Nat.reduceLeDiff, va_rf, rtOk, Bool.false_eq_true, Bool.true_eq_false, if_false, if_true, ite_true, ite_false, true_and, and_true, eq_self, ne_eq, not_false_eq_true, not_true_eq_false, false_implies, true_implies, and_self, reduceCtorEq, Nat.reduceBEq, Bool.or_false, Bool.false_or, Bool.or_true, Bool.true_or, if1_0, if1_1, if1_01, one_01, zer_01, lg_cmp_ge, lg_cmp_le, lg_cmp_gt, lg_cmp_lt, lg_cmp_eq, Classical.not_not, SHm hS, SHr hS, ↓im_F hq, ↓im_FN hq, hq]
      exact hk1 r f h1
    · obtain ⟨i', w', rfl, rfl, hiw⟩ := tkV_none hk4 (hz k hk4) h1
      have hk9 := hk2 k i' w' h1 rfl rfl rfl hk4 hiw
      simp only [D_X12_chain, N_X12_chain, ↓reduceIte, vcS, vcC, vcI, gtF, ptF, inS, inV, fv0, fv1, fv2, fv3, fw0, fw1, lg_0, lg_1, lg_2, lg_3, lg_4, lg_5, lg_6, lg_7, lg_8, lg_9, lg_10, lg_11, lg_12, lg_13, lg_14, lsq_0, lsl_0, lsq_1, lsl_1, lsq_2, lsl_2, lsq_3, lsl_3, lsq_4, lsl_4, lsq_5, lsl_5, lsq_6, lsl_6, lsq_7, lsl_7, lsq_8, lsl_8, lsq_9, lsl_9, lsq_10, lsl_10, lsq_11, lsl_11, lsq_12, lsl_12, lsq_13, lsl_13, lsq_14, lsl_14, tk_0, tk_1, tk_2, tk_3, tk_4, tk_5, tk_6, tk_7, tk_8, cs_n, cs_i, cs_l, cs_r, cs_u, nl, rt_s, rt_n, CST1, Nat.reduceAdd, Nat.reduceLeDiff, va_rf, rtOk, Bool.false_eq_true, Bool.true_eq_false, if_false, if_true, ite_true, ite_false, true_and, and_true, eq_self, ne_eq, not_false_eq_true, not_true_eq_false, false_implies, true_implies, and_self, reduceCtorEq, Nat.reduceBEq, Bool.or_false, Bool.false_or, Bool.or_true, Bool.true_or, if1_0, if1_1, if1_01, one_01, zer_01, lg_cmp_ge, lg_cmp_le, lg_cmp_gt, lg_cmp_lt, lg_cmp_eq, Classical.not_not, SHm hS, SHr hS, z00, ml60, nI_add]
      refine ⟨by omega, m_readChain (v := fun j => sg 87 (60 * k + (i' + j))) (lk0 := fun _ => 0) hS (by omega) (by omega) (by omega) h18 hQ (fun j hj => by rw [Nat.add_assoc]) (fun σ f1 f2 => ?_)⟩
      have rr := rd_r (v := fun j => sg 87 (60 * k + (i' + j))) (Q := Q) (w := w') w' 0 0 0 0 (fun _ => 0) (by omega) (fun _ => by omega) (by omega) (fun q => absurd rfl q)
      obtain ⟨o, ho⟩ : ∃ o, o = rdF (fun j => sg 87 (60 * k + (i' + j))) Q w' w' 0 0 0 0 (fun _ => 0) := ⟨_, rfl⟩
      have hk8 : ∀ σ, (∀ a k, a ≠ 69 → ¬ (a = 48 ∧ (k = 0 ∨ k = 26 ∨ k = 28 ∨ k = 129 ∨ k = 229)) → σ a k = sg a k) → σ 48 0 = 0 → K (some (.int (cnR rw_ vd mc tk F o))) σ := by rw [ho]; exact hk9
      rw [← ho] at f2 rr ⊢
      cases e : o.1 with
      | some y =>
        have hy := rr.2 y e
        rw [cn_s e] at hk8
        have e2 : rdM (some y) = nI y := rfl
        have z9 : (nI y < 0) = False := nI_lt0 (by omega)
        rw [e2]
        simp only [D_X12_chain, N_X12_chain, ↓reduceIte, vcS, vcC, vcI, gtF, ptF, inS, inV, fv0, fv1, fv2, fv3, fw0, fw1, lg_0, lg_1, lg_2, lg_3, lg_4, lg_5, lg_6, lg_7, lg_8, lg_9, lg_10, lg_11, lg_12, lg_13, lg_14, lsq_0, lsl_0, lsq_1, lsl_1, lsq_2, lsl_2, lsq_3, lsl_3, lsq_4, lsl_4, lsq_5, lsl_5, lsq_6, lsl_6, lsq_7, lsl_7, lsq_8, lsl_8, lsq_9, lsl_9, lsq_10, lsl_10, lsq_11, lsl_11, lsq_12, lsl_12, lsq_13, lsl_13, lsq_14, lsl_14, tk_0, tk_1, tk_2, tk_3, tk_4, tk_5, tk_6, tk_7, tk_8, cs_n, cs_i, cs_l, cs_r, cs_u, nl, rt_s, rt_n, CST1, Nat.reduceAdd, Nat.reduceLeDiff, va_rf, rtOk, Bool.false_eq_true, Bool.true_eq_false, if_false, if_true, ite_true, ite_false, true_and, and_true, eq_self, ne_eq, not_false_eq_true, not_true_eq_false, false_implies, true_implies, and_self, reduceCtorEq, Nat.reduceBEq, Bool.or_false, Bool.false_or, Bool.or_true, Bool.true_or, if1_0, if1_1, if1_01, one_01, zer_01, lg_cmp_ge, lg_cmp_le, lg_cmp_gt, lg_cmp_lt, lg_cmp_eq, Classical.not_not, SHm hS, SHr hS, z9]
        refine ⟨by omega, m_refused hS ?_⟩
        simp only [D_X12_chain, N_X12_chain, ↓reduceIte, vcS, vcC, vcI, gtF, ptF, inS, inV, fv0, fv1, fv2, fv3, fw0, fw1, lg_0, lg_1, lg_2, lg_3, lg_4, lg_5, lg_6, lg_7, lg_8, lg_9, lg_10, lg_11, lg_12, lg_13, lg_14, lsq_0, lsl_0, lsq_1, lsl_1, lsq_2, lsl_2, lsq_3, lsl_3, lsq_4, lsl_4, lsq_5, lsl_5, lsq_6, lsl_6, lsq_7, lsl_7, lsq_8, lsl_8, lsq_9, lsl_9, lsq_10, lsl_10, lsq_11, lsl_11, lsq_12, lsl_12, lsq_13, lsl_13, lsq_14, lsl_14, tk_0, tk_1, tk_2, tk_3, tk_4, tk_5, tk_6, tk_7, tk_8, cs_n, cs_i, cs_l, cs_r, cs_u, nl, rt_s, rt_n, CST1, Nat.reduceAdd, Nat.reduceLeDiff, va_rf, rtOk, Bool.false_eq_true, Bool.true_eq_false, if_false, if_true, ite_true, ite_false, true_and, and_true, eq_self, ne_eq, not_false_eq_true, not_true_eq_false, false_implies, true_implies, and_self, reduceCtorEq, Nat.reduceBEq, Bool.or_false, Bool.false_or, Bool.or_true, Bool.true_or, if1_0, if1_1, if1_01, one_01, zer_01, lg_cmp_ge, lg_cmp_le, lg_cmp_gt, lg_cmp_lt, lg_cmp_eq, Classical.not_not, SHm hS, SHr hS]
        exact hk8 _ (fun a k h h' => by rw [s2_n (by omega)]; exact f1 a k h (by omega)) (s2_y ⟨rfl, rfl⟩)
      | none =>
        have hz5 := rr.1 e
        rw [cn_n e] at hk8
        obtain ⟨lk, hlk⟩ : ∃ lk, lk = o.2.2.2 := ⟨_, rfl⟩
        obtain ⟨z, hz9⟩ : ∃ z, z = o.2.1 := ⟨_, rfl⟩
        obtain ⟨sp, hsp⟩ : ∃ sp, sp = o.2.2.1 := ⟨_, rfl⟩
        rw [← hlk, ← hz9, ← hsp] at hk8 f2
        rw [← hz9] at hz5
        obtain ⟨g1, g2, g3⟩ := f2
        have z9 : (rdM none < 0) = True := eq_true (by decide)
        have hMs : ∀ τ : aS, (∀ a k, ¬ (a = 48 ∧ (k = 129 ∨ k = 229)) → τ a k = σ a k) → M_ch τ F rw_ vd mc tk ft := fun τ h => hM.p (by rw [h 48 21 (by omega)]; exact f1 48 21 (by omega) (by omega)) (fun a ha hb k => by rw [h a k (by omega)]; exact f1 a k (by omega) (by omega))
        have lo : ∀ (mm f : Nat) (τ : aS) (v9 : Value), f + mm = F → (∀ a k, ¬ (a = 48 ∧ (k = 129 ∨ k = 229)) → τ a k = σ a k) → AW G 10 n 0 0 mu ro τ 68 [.ref 48, .int (nI k), .int l, .int (nI i'), .int (nI w'), .int 0, .int (rdM none), .int (mwF rw_ vd mc tk lk F z sp f), .int (nI f), v9] [] := by
          intro mm
          induction mm with
          | zero =>
            intro f τ v9 hi hτ
            have hc : (nI F ≤ nI f) = True := eq_true (nI_le (by omega) (by have := hM.2.1; omega))
            have hF9 := (hMs τ hτ).1
            have : f = F := by omega
            subst this
            refine hG (fun q => q == 68) 80 _ _ _ _ (Nat.le_of_ble_eq_true rfl) ?_
            simp only [D_X12_chain, N_X12_chain, ↓reduceIte, vcS, vcC, vcI, gtF, ptF, inS, inV, fv0, fv1, fv2, fv3, fw0, fw1, lg_0, lg_1, lg_2, lg_3, lg_4, lg_5, lg_6, lg_7, lg_8, lg_9, lg_10, lg_11, lg_12, lg_13, lg_14, lsq_0, lsl_0, lsq_1, lsl_1, lsq_2, lsl_2, lsq_3, lsl_3, lsq_4, lsl_4, lsq_5, lsl_5, lsq_6, lsl_6, lsq_7, lsl_7, lsq_8, lsl_8, lsq_9, lsl_9, lsq_10, lsl_10, lsq_11, lsl_11, lsq_12, lsl_12, lsq_13, lsl_13, lsq_14, lsl_14, tk_0, tk_1, tk_2, tk_3, tk_4, tk_5, tk_6, tk_7, tk_8, cs_n, cs_i, cs_l, cs_r, cs_u, nl, rt_s, rt_n, CST1, Nat.reduceAdd, Nat.reduceLeDiff, va_rf, rtOk, Bool.false_eq_true, Bool.true_eq_false, if_false, if_true, ite_true, ite_false, true_and, and_true, eq_self, ne_eq, not_false_eq_true, not_true_eq_false, false_implies, true_implies, and_self, reduceCtorEq, Nat.reduceBEq, Bool.or_false, Bool.false_or, Bool.or_true, Bool.true_or, if1_0, if1_1, if1_01, one_01, zer_01, lg_cmp_ge, lg_cmp_le, lg_cmp_gt, lg_cmp_lt, lg_cmp_eq, Classical.not_not, SHm hS, SHr hS, hF9, ↓im_T hc, ↓im_TN hc, hc]
            refine ⟨by omega, m_refused hS ?_⟩
            simp only [D_X12_chain, N_X12_chain, ↓reduceIte, vcS, vcC, vcI, gtF, ptF, inS, inV, fv0, fv1, fv2, fv3, fw0, fw1, lg_0, lg_1, lg_2, lg_3, lg_4, lg_5, lg_6, lg_7, lg_8, lg_9, lg_10, lg_11, lg_12, lg_13, lg_14, lsq_0, lsl_0, lsq_1, lsl_1, lsq_2, lsl_2, lsq_3, lsl_3, lsq_4, lsl_4, lsq_5, lsl_5, lsq_6, lsl_6, lsq_7, lsl_7, lsq_8, lsl_8, lsq_9, lsl_9, lsq_10, lsl_10, lsq_11, lsl_11, lsq_12, lsl_12, lsq_13, lsl_13, lsq_14, lsl_14, tk_0, tk_1, tk_2, tk_3, tk_4, tk_5, tk_6, tk_7, tk_8, cs_n, cs_i, cs_l, cs_r, cs_u, nl, rt_s, rt_n, CST1, Nat.reduceAdd, Nat.reduceLeDiff, va_rf, rtOk, Bool.false_eq_true, Bool.true_eq_false, if_false, if_true, ite_true, ite_false, true_and, and_true, eq_self, ne_eq, not_false_eq_true, not_true_eq_false, false_implies, true_implies, and_self, reduceCtorEq, Nat.reduceBEq, Bool.or_false, Bool.false_or, Bool.or_true, Bool.true_or, if1_0, if1_1, if1_01, one_01, zer_01, lg_cmp_ge, lg_cmp_le, lg_cmp_gt, lg_cmp_lt, lg_cmp_eq, Classical.not_not, SHm hS, SHr hS]
            exact hk8 _ (fun a k h h' => by rw [s2_n (by omega), hτ a k (by omega)]; exact f1 a k h (by omega)) (s2_y ⟨rfl, rfl⟩)
          | succ mm ih =>
            intro f τ v9 hi hτ
            obtain ⟨hF9, hF2, hf⟩ := id (hMs τ hτ)
            have hc : (nI F ≤ nI f) = False := eq_false (nI_ge (by omega) (by omega))
            have ei : (nI f).toNatClampNeg = f := nI_clamp (by omega)
            have vi : vp_in (nI f) 40 := vp_in_nI (by omega) (by decide)
            obtain ⟨t1, t2, t3, t4, t5, t6⟩ := hf f (by omega)
            have eq : (nI (ft f)).toNatClampNeg = ft f := nI_clamp (by omega)
            have vq : vp_in (nI (ft f)) 8 := vp_in_nI t3 (by decide)
            have v0 : vp_in (0 : Int32) 5 := vp_in_nI (n := 0) (by decide) (by decide)
            have e0 : (0 : Int32).toNatClampNeg = 0 := by decide
            have l0 : τ 69 0 = lk 0 := by rw [hτ 69 0 (by omega)]; exact g3 0 (by omega)
            have h0 := fun τ' v9' q => ih (f + 1) τ' v9' (by omega) q
            rw [mwF] at h0
            have no : ¬ ((rw_ f = lk 0 ∧ ¬ vd f = 1) ∧ chB rw_ vd mc tk lk F z sp f = true) → ∀ (τ' : aS) (v9' : Value), (∀ a k, ¬ (a = 48 ∧ (k = 129 ∨ k = 229)) → τ' a k = σ a k) → AW G 10 n 0 0 mu ro τ' 68 [.ref 48, .int (nI k), .int l, .int (nI i'), .int (nI w'), .int 0, .int (rdM none), .int (mwF rw_ vd mc tk lk F z sp f), .int (nI (f + 1)), v9'] [] := by
              intro q τ' v9' h
              have := h0 τ' v9' h
              rw [if_neg q] at this
              exact this
            by_cases a : rw_ f = lk 0
            · have a' := eq_true a
              by_cases b : vd f = 1
              · have b' := eq_true b
                refine hG (fun q => q == 68) 80 _ _ _ _ (Nat.le_of_ble_eq_true rfl) ?_
                simp only [D_X12_chain, N_X12_chain, ↓reduceIte, vcS, vcC, vcI, gtF, ptF, inS, inV, fv0, fv1, fv2, fv3, fw0, fw1, lg_0, lg_1, lg_2, lg_3, lg_4, lg_5, lg_6, lg_7, lg_8, lg_9, lg_10, lg_11, lg_12, lg_13, lg_14, lsq_0, lsl_0, lsq_1, lsl_1, lsq_2, lsl_2, lsq_3, lsl_3, lsq_4, lsl_4, lsq_5, lsl_5, lsq_6, lsl_6, lsq_7, lsl_7, lsq_8, lsl_8, lsq_9, lsl_9, lsq_10, lsl_10, lsq_11, lsl_11, lsq_12, lsl_12, lsq_13, lsl_13, lsq_14, lsl_14, tk_0, tk_1, tk_2, tk_3, tk_4, tk_5, tk_6, tk_7, tk_8, cs_n, cs_i, cs_l, cs_r, cs_u, nl, rt_s, rt_n, CST1, Nat.reduceAdd, Nat.reduceLeDiff, va_rf, rtOk, Bool.false_eq_true, Bool.true_eq_false, if_false, if_true, ite_true, ite_false, true_and, and_true, eq_self, ne_eq, not_false_eq_true, not_true_eq_false, false_implies, true_implies, and_self, reduceCtorEq, Nat.reduceBEq, Bool.or_false, Bool.false_or, Bool.or_true, Bool.true_or, if1_0, if1_1, if1_01, one_01, zer_01, lg_cmp_ge, lg_cmp_le, lg_cmp_gt, lg_cmp_lt, lg_cmp_eq, Classical.not_not, SHm hS, SHr hS, hF9, ↓im_F hc, ↓im_FN hc, hc, ei, vi, t1, t2, t4, t6, eq, vq, v0, e0, l0, a', b', nI_1, Int32.or_zero]
                exact no (fun u => u.1.2 b) _ _ hτ
              · have b' := eq_false b
                refine hG (fun q => q == 68) 80 _ _ _ _ (Nat.le_of_ble_eq_true rfl) ?_
                simp only [D_X12_chain, N_X12_chain, ↓reduceIte, vcS, vcC, vcI, gtF, ptF, inS, inV, fv0, fv1, fv2, fv3, fw0, fw1, lg_0, lg_1, lg_2, lg_3, lg_4, lg_5, lg_6, lg_7, lg_8, lg_9, lg_10, lg_11, lg_12, lg_13, lg_14, lsq_0, lsl_0, lsq_1, lsl_1, lsq_2, lsl_2, lsq_3, lsl_3, lsq_4, lsl_4, lsq_5, lsl_5, lsq_6, lsl_6, lsq_7, lsl_7, lsq_8, lsl_8, lsq_9, lsl_9, lsq_10, lsl_10, lsq_11, lsl_11, lsq_12, lsl_12, lsq_13, lsl_13, lsq_14, lsl_14, tk_0, tk_1, tk_2, tk_3, tk_4, tk_5, tk_6, tk_7, tk_8, cs_n, cs_i, cs_l, cs_r, cs_u, nl, rt_s, rt_n, CST1, Nat.reduceAdd, Nat.reduceLeDiff, va_rf, rtOk, Bool.false_eq_true, Bool.true_eq_false, if_false, if_true, ite_true, ite_false, true_and, and_true, eq_self, ne_eq, not_false_eq_true, not_true_eq_false, false_implies, true_implies, and_self, reduceCtorEq, Nat.reduceBEq, Bool.or_false, Bool.false_or, Bool.or_true, Bool.true_or, if1_0, if1_1, if1_01, one_01, zer_01, lg_cmp_ge, lg_cmp_le, lg_cmp_gt, lg_cmp_lt, lg_cmp_eq, Classical.not_not, SHm hS, SHr hS, hF9, ↓im_F hc, ↓im_FN hc, hc, ei, vi, t1, t2, t4, t6, eq, vq, v0, e0, l0, a', b', nI_1, Int32.or_zero]
                refine ⟨by omega, m_hasFrom (z := z) (sp := sp) (lk := lk) hS (by omega) (hMs τ hτ) (by omega) (by rw [hτ 48 26 (by omega)]; exact g1) hz5 (fun c hc9 => by rw [hτ 69 c (by omega)]; exact g3 c hc9) (by rw [hτ 48 28 (by omega)]; exact g2) (fun τ' hτ' => ?_)⟩
                have hτ2 : ∀ a k, ¬ (a = 48 ∧ (k = 129 ∨ k = 229)) → τ' a k = σ a k := fun a k h => (hτ' a k h).trans (hτ a k h)
                simp only [D_X12_chain, N_X12_chain, ↓reduceIte, vcS, vcC, vcI, gtF, ptF, inS, inV, fv0, fv1, fv2, fv3, fw0, fw1, lg_0, lg_1, lg_2, lg_3, lg_4, lg_5, lg_6, lg_7, lg_8, lg_9, lg_10, lg_11, lg_12, lg_13, lg_14, lsq_0, lsl_0, lsq_1, lsl_1, lsq_2, lsl_2, lsq_3, lsl_3, lsq_4, lsl_4, lsq_5, lsl_5, lsq_6, lsl_6, lsq_7, lsl_7, lsq_8, lsl_8, lsq_9, lsl_9, lsq_10, lsl_10, lsq_11, lsl_11, lsq_12, lsl_12, lsq_13, lsl_13, lsq_14, lsl_14, tk_0, tk_1, tk_2, tk_3, tk_4, tk_5, tk_6, tk_7, tk_8, cs_n, cs_i, cs_l, cs_r, cs_u, nl, rt_s, rt_n, CST1, Nat.reduceAdd, Nat.reduceLeDiff, va_rf, rtOk, Bool.false_eq_true, Bool.true_eq_false, if_false, if_true, ite_true, ite_false, true_and, and_true, eq_self, ne_eq, not_false_eq_true, not_true_eq_false, false_implies, true_implies, and_self, reduceCtorEq, Nat.reduceBEq, Bool.or_false, Bool.false_or, Bool.or_true, Bool.true_or, if1_0, if1_1, if1_01, one_01, zer_01, lg_cmp_ge, lg_cmp_le, lg_cmp_gt, lg_cmp_lt, lg_cmp_eq, Classical.not_not, SHm hS, SHr hS, nI_1, Int32.or_zero]
                refine ⟨fun g => no (fun u => g u.2) _ _ hτ2, fun g => ?_⟩
                have := h0 τ' (.int (mc f)) hτ2
                rw [if_pos ⟨⟨a, b⟩, g⟩] at this
                exact this
            · have a' := eq_false a
              refine hG (fun q => q == 68) 80 _ _ _ _ (Nat.le_of_ble_eq_true rfl) ?_
              simp only [D_X12_chain, N_X12_chain, ↓reduceIte, vcS, vcC, vcI, gtF, ptF, inS, inV, fv0, fv1, fv2, fv3, fw0, fw1, lg_0, lg_1, lg_2, lg_3, lg_4, lg_5, lg_6, lg_7, lg_8, lg_9, lg_10, lg_11, lg_12, lg_13, lg_14, lsq_0, lsl_0, lsq_1, lsl_1, lsq_2, lsl_2, lsq_3, lsl_3, lsq_4, lsl_4, lsq_5, lsl_5, lsq_6, lsl_6, lsq_7, lsl_7, lsq_8, lsl_8, lsq_9, lsl_9, lsq_10, lsl_10, lsq_11, lsl_11, lsq_12, lsl_12, lsq_13, lsl_13, lsq_14, lsl_14, tk_0, tk_1, tk_2, tk_3, tk_4, tk_5, tk_6, tk_7, tk_8, cs_n, cs_i, cs_l, cs_r, cs_u, nl, rt_s, rt_n, CST1, Nat.reduceAdd, Nat.reduceLeDiff, va_rf, rtOk, Bool.false_eq_true, Bool.true_eq_false, if_false, if_true, ite_true, ite_false, true_and, and_true, eq_self, ne_eq, not_false_eq_true, not_true_eq_false, false_implies, true_implies, and_self, reduceCtorEq, Nat.reduceBEq, Bool.or_false, Bool.false_or, Bool.or_true, Bool.true_or, if1_0, if1_1, if1_01, one_01, zer_01, lg_cmp_ge, lg_cmp_le, lg_cmp_gt, lg_cmp_lt, lg_cmp_eq, Classical.not_not, SHm hS, SHr hS, hF9, ↓im_F hc, ↓im_FN hc, hc, ei, vi, t1, t2, t4, t6, eq, vq, v0, e0, l0, a', nI_1, Int32.or_zero]
              exact no (fun u => a u.1.1) _ _ hτ
        simp only [D_X12_chain, N_X12_chain, ↓reduceIte, vcS, vcC, vcI, gtF, ptF, inS, inV, fv0, fv1, fv2, fv3, fw0, fw1, lg_0, lg_1, lg_2, lg_3, lg_4, lg_5, lg_6, lg_7, lg_8, lg_9, lg_10, lg_11, lg_12, lg_13, lg_14, lsq_0, lsl_0, lsq_1, lsl_1, lsq_2, lsl_2, lsq_3, lsl_3, lsq_4, lsl_4, lsq_5, lsl_5, lsq_6, lsl_6, lsq_7, lsl_7, lsq_8, lsl_8, lsq_9, lsl_9, lsq_10, lsl_10, lsq_11, lsl_11, lsq_12, lsl_12, lsq_13, lsl_13, lsq_14, lsl_14, tk_0, tk_1, tk_2, tk_3, tk_4, tk_5, tk_6, tk_7, tk_8, cs_n, cs_i, cs_l, cs_r, cs_u, nl, rt_s, rt_n, CST1, Nat.reduceAdd, Nat.reduceLeDiff, va_rf, rtOk, Bool.false_eq_true, Bool.true_eq_false, if_false, if_true, ite_true, ite_false, true_and, and_true, eq_self, ne_eq, not_false_eq_true, not_true_eq_false, false_implies, true_implies, and_self, reduceCtorEq, Nat.reduceBEq, Bool.or_false, Bool.false_or, Bool.or_true, Bool.true_or, if1_0, if1_1, if1_01, one_01, zer_01, lg_cmp_ge, lg_cmp_le, lg_cmp_gt, lg_cmp_lt, lg_cmp_eq, Classical.not_not, SHm hS, SHr hS, z9]
        exact lo F 0 σ _ (by omega) (fun _ _ _ => rfl)
  · refine ⟨by omega, m_noSheetX (by omega) hok ?_⟩
    simp only [D_X12_chain, N_X12_chain, ↓reduceIte, vcS, vcC, vcI, gtF, ptF, inS, inV, fv0, fv1, fv2, fv3, fw0, fw1, lg_0, lg_1, lg_2, lg_3, lg_4, lg_5, lg_6, lg_7, lg_8, lg_9, lg_10, lg_11, lg_12, lg_13, lg_14, lsq_0, lsl_0, lsq_1, lsl_1, lsq_2, lsl_2, lsq_3, lsl_3, lsq_4, lsl_4, lsq_5, lsl_5, lsq_6, lsl_6, lsq_7, lsl_7, lsq_8, lsl_8, lsq_9, lsl_9, lsq_10, lsl_10, lsq_11, lsl_11, lsq_12, lsl_12, lsq_13, lsl_13, lsq_14, lsl_14, tk_0, tk_1, tk_2, tk_3, tk_4, tk_5, tk_6, tk_7, tk_8, cs_n, cs_i, cs_l, cs_r, cs_u, nl, rt_s, rt_n, CST1, Nat.reduceAdd, Nat.reduceLeDiff, va_rf, rtOk, Bool.false_eq_true, Bool.true_eq_false, if_false, if_true, ite_true, ite_false, true_and, and_true, eq_self, ne_eq, not_false_eq_true, not_true_eq_false, false_implies, true_implies, and_self, reduceCtorEq, Nat.reduceBEq, Bool.or_false, Bool.false_or, Bool.or_true, Bool.true_or, if1_0, if1_1, if1_01, one_01, zer_01, lg_cmp_ge, lg_cmp_le, lg_cmp_gt, lg_cmp_lt, lg_cmp_eq, Classical.not_not, SHm hS, SHr hS, z10]
    refine ⟨by omega, m_refused hS ?_⟩
    simp only [D_X12_chain, N_X12_chain, ↓reduceIte, vcS, vcC, vcI, gtF, ptF, inS, inV, fv0, fv1, fv2, fv3, fw0, fw1, lg_0, lg_1, lg_2, lg_3, lg_4, lg_5, lg_6, lg_7, lg_8, lg_9, lg_10, lg_11, lg_12, lg_13, lg_14, lsq_0, lsl_0, lsq_1, lsl_1, lsq_2, lsl_2, lsq_3, lsl_3, lsq_4, lsl_4, lsq_5, lsl_5, lsq_6, lsl_6, lsq_7, lsl_7, lsq_8, lsl_8, lsq_9, lsl_9, lsq_10, lsl_10, lsq_11, lsl_11, lsq_12, lsl_12, lsq_13, lsl_13, lsq_14, lsl_14, tk_0, tk_1, tk_2, tk_3, tk_4, tk_5, tk_6, tk_7, tk_8, cs_n, cs_i, cs_l, cs_r, cs_u, nl, rt_s, rt_n, CST1, Nat.reduceAdd, Nat.reduceLeDiff, va_rf, rtOk, Bool.false_eq_true, Bool.true_eq_false, if_false, if_true, ite_true, ite_false, true_and, and_true, eq_self, ne_eq, not_false_eq_true, not_true_eq_false, false_implies, true_implies, and_self, reduceCtorEq, Nat.reduceBEq, Bool.or_false, Bool.false_or, Bool.or_true, Bool.true_or, if1_0, if1_1, if1_01, one_01, zer_01, lg_cmp_ge, lg_cmp_le, lg_cmp_gt, lg_cmp_lt, lg_cmp_eq, Classical.not_not, SHm hS, SHr hS]
    exact hk1 (-1) 0 (tkV_X hok)
set_option maxHeartbeats 4000000 in
set_option maxRecDepth 100000 in
theorem b_chain {x l i w : Int32} (hS : Sh mu ro) (hd : 6 ≤ d) (hI : I_sh sg) (hR : I_rw sg Q rb) (hF : I_fd sg F T) (hT8 : T ≤ 8) (hk : ∀ r sg2, I_sh sg2 → Fr [13] sg sg2 → K r sg2) : aCall d 111 [.ref 0, .int x, .int l, .int i, .int w] n mu ro sg (fun r1 sg1 => aCall d 199 [.ref 48, .int x, .int l, .int i, .int w] n mu ro sg1 (fun r2 sg2 => r1 = r2 ∧ K r1 sg2)) := by
  have hf : ∀ v r, K r (s2 (s2 sg 0 14 v) 48 0 v) := fun v r => hk _ _ (hI.ft ft2.1 ft2.2) Fr_f2
  obtain ⟨⟨i1, i2⟩, i3, i4⟩ := id hR
  obtain ⟨⟨j1, j2⟩, j3, j4, j5⟩ := id hF
  obtain ⟨ft, hft⟩ : ∃ ft : Nat → Nat, ft = fun f => (sg 66 f).toNatClampNeg := ⟨_, rfl⟩
  have key : ∀ f, f < F → sg 66 f = nI (ft f) ∧ ft f < 8 ∧ sg 18 f = sg 56 (ft f) ∧ sg 16 f = sg 65 f ∧ sg 19 f = sg 67 f ∧ sg 20 f = sg 68 f := by
    intro f hf9
    obtain ⟨⟨t, t1, t2, t3, t4⟩, g1, g2, g3, g4, g5, g6⟩ := j4 f hf9
    have e2 : ft f = t := by rw [hft]; show (sg 66 f).toNatClampNeg = t; rw [t3]; exact nI_clamp (by omega)
    rw [e2]
    exact ⟨t3, by omega, t4, g1, g3, g5⟩
  have hM : M_ch sg F (sg 65) (sg 68) (fun f => sg 56 (ft f)) (sg 67) ft := ⟨j2, j3, fun f hf9 => ⟨rfl, (key f hf9).1, (key f hf9).2.1, rfl, rfl, rfl⟩⟩
  have e85 : ∀ f j, s2 sg 0 14 f 85 j = sg 85 j := fun f j => s2_n (by omega)
  have e86 : ∀ f j, s2 sg 0 14 f 86 j = sg 86 j := fun f j => s2_n (by omega)
  refine c_chain (rw_ := sg 65) (vd := sg 68) (mc := fun f => sg 56 (ft f)) (tk := sg 67) hS hd hI i1 i3 j1 j3 (fun f hf9 => ⟨(key f hf9).2.2.2.1, (key f hf9).2.2.1, (key f hf9).2.2.2.2.1, (key f hf9).2.2.2.2.2⟩) (fun r f h1 => ?_) (fun k i' w' h1 h2 h3 h4 h5 σ hσ => ?_)
  · refine m_chain (Q := Q) (F := F) hS hd (fun k hk4 => by rw [e85]; exact (sh_say hI hk4).1) (by rw [s2_n (by omega)]; exact i2) i3 (hM.p (s2_n (by omega)) (fun a _ _ k => s2_n (by omega))) (fun r2 f2 h2 => ?_) (fun k i' w' h2 => ?_)
    · rw [tkV_fr (e85 f) (e86 f), h1] at h2
      obtain ⟨rfl, rfl⟩ := Prod.mk.inj (Option.some.inj h2)
      exact ⟨rfl, hf _ _⟩
    · rw [tkV_fr (e85 f) (e86 f), h1] at h2
      exact absurd h2 (by simp)
  · have o : ∀ a k, a ≠ 21 → a ≠ 22 → ¬ (a = 0 ∧ k = 14) → σ a k = sg a k := fun a k q1 q2 q3 => by rw [hσ a k q1 q2, s2_n (by omega)]
    have o85 : ∀ j, σ 85 j = sg 85 j := fun j => o 85 j (by omega) (by omega) (by omega)
    have o86 : ∀ j, σ 86 j = sg 86 j := fun j => o 86 j (by omega) (by omega) (by omega)
    refine m_chain (Q := Q) (F := F) hS hd (fun k hk4 => by rw [o85]; exact (sh_say hI hk4).1) (by rw [o 48 18 (by omega) (by omega) (by omega)]; exact i2) i3 (hM.p (o 48 21 (by omega) (by omega) (by omega)) (fun a _ _ k => o a k (by omega) (by omega) (by omega))) (fun r2 f2 h6 => ?_) (fun k2 i2' w2 h6 h7 h8 h9 h10 h11 σ2 hσ2 h0 => ?_)
    · rw [tkV_fr o85 o86, h1] at h6
      exact absurd h6 (by simp)
    · obtain ⟨q1, q2, q3⟩ := h5
      have z1 : k = k2 := (nI_eq (by omega) (by omega)).mp (h2.symm.trans h7)
      have z2 : i' = i2' := (nI_eq (by omega) (by omega)).mp (h3.symm.trans h8)
      have z3 : w' = w2 := (nI_eq (by omega) (by omega)).mp (h4.symm.trans h9)
      subst z1 z2 z3
      have e87 : σ 87 = sg 87 := funext (fun j => o 87 j (by omega) (by omega) (by omega))
      have o2 : ∀ a k, a ≠ 21 → a ≠ 22 → ¬ (a = 0 ∧ k = 14) → a ≠ 69 → ¬ (a = 48 ∧ (k = 0 ∨ k = 26 ∨ k = 28 ∨ k = 129 ∨ k = 229)) → σ2 a k = sg a k := fun a k q1 q2 q3 q4 q5 => (hσ2 a k q4 q5).trans (o a k q1 q2 q3)
      have rg : ∀ a k, reg a k ≠ 13 → reg a k ≠ 0 → σ2 a k = sg a k := by
        intro a k q1 q2
        refine o2 a k (fun z => q2 (by rw [z]; rfl)) (fun z => q2 (by rw [z]; rfl)) (fun z => q1 (by rw [z.1, z.2]; rfl)) (fun z => q2 (by rw [z]; rfl)) (fun z => ?_)
        rcases z.2 with y | y | y | y | y
        · exact q1 (by rw [z.1, y]; rfl)
        all_goals exact q2 (by rw [z.1, y]; rfl)
      refine ⟨?_, hk _ _ (hI.fr (fun a k q => rg a k (by rw [q]; decide) (by rw [q]; decide)) ?_) (fun a k q1 q2 => rg a k (fun z => q1 (by rw [z]; decide)) q2)⟩
      · show some (Value.int (cnR _ _ _ _ _ (cnO sg Q k i' w'))) = some (Value.int (cnR _ _ _ _ _ (cnO σ Q k i' w')))
        unfold cnO
        rw [e87]
      · rw [h0, hσ2 0 14 (by omega) (by omega), hσ 0 14 (by omega) (by omega), s2_y ⟨rfl, rfl⟩]
end H75
