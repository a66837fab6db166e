/-! part 49: the reference's questions to the net -/
section H49
variable {d n N : Nat} {mu : aM} {ro : aR} {sg : aS} {K : Option Value → aS → Prop} {R P : Nat → Nat → Bool} {D : Nat} {dA dB : Nat → Nat} {S T : Nat → Bool} {E : Nat → Nat → Bool} {A : Nat → Bool}
theorem cl_e {a b e : Nat} (h : Nt R P D dA dB S) (he : e < D) (hp : prD dA dB e a b) : clB dA dB T a b D = T e := by
  rw [Bool.eq_iff_iff, cl_t]
  constructor
  · rintro ⟨f, f1, f2, f3⟩
    have : f = e := h.2.2.2.2.2.2.1 f e f1 he (by unfold prD at hp f3 ⊢; omega)
    rw [← this]; exact f2
  · intro z
    exact ⟨e, he, z, hp⟩
theorem cl_n {a b : Nat} (hn : ∀ e, e < D → ¬ prD dA dB e a b) : clB dA dB T a b D = false := by
  rw [← Bool.not_eq_true, cl_t]
  rintro ⟨e, e1, _, e3⟩
  exact hn e e1 e3
set_option maxHeartbeats 4000000 in
set_option maxRecDepth 100000 in
theorem m_isOpen {a b : Nat} {w : Int32} {bl : Bool} (hS : Sh mu ro) (hd : 1 ≤ d) (hN : Nt R P D dA dB S) (hM : M_nt sg R P D dA dB S) (ha : a < 10) (hb : b < 10) (hw : rwO w 8 T) (hk : K (some (.int (if opE R P D dA dB T bl a b = true then 1 else 0))) sg) : aCall d 171 [.ref 48, .int (nI a), .int (nI b), .int w, .int (if bl = true then 1 else 0)] n mu ro sg K := by
  obtain ⟨x1, x2, x3, x4, x5, x6⟩ := id hM
  have hD8 := hN.1
  have ea : (nI a).toNatClampNeg = a := nI_clamp (by omega)
  have va : vp_in (nI a) 10 := vp_in_nI ha (by decide)
  have ei : (nI (10 * a + b)).toNatClampNeg = 10 * a + b := nI_clamp (by omega)
  have vi : vp_in (nI (10 * a + b)) 100 := vp_in_nI (by omega) (by decide)
  have hq1 : ((sg 49 a >>> (nI b &&& 31)) &&& 1 = 1) = (R a b = true) := rw_bt (x1 a ha) hb (by omega)
  have hq3 : ((sg 50 a >>> (nI b &&& 31)) &&& 1 = 1) = (P a b = true) := rw_bt (x2 a ha) hb (by omega)
  refine aCall_start (mL := 6) (cc := cX12_isOpen) (o := 12) (ret := (some .boolean)) 1 (by decide) (by decide +kernel) rfl rfl rfl rfl (Nat.le_of_ble_eq_true rfl) (fun G hC hG => ?_)
  simp only [exL, List.cons_append, List.nil_append, rp_0, rp_1, rp_2, rp_3, rp_4, rp_5, rp_6, rp_7, rp_8, rp_9, rp_10, rp_11, List.append_nil]
  refine hG (fun _ => false) 80 _ _ _ _ (Nat.le_of_ble_eq_true rfl) ?_
  simp only [D_X12_isOpen, ↓reduceIte, vcS, vcC, vcI, gtF, ptF, inS, inV, fv0, fv1, fv2, fv3, fw0, fw1, lg_0, lg_1, lg_2, lg_3, lg_4, lg_5, lg_6, lg_7, lg_8, lg_9, lg_10, lg_11, lg_12, lg_13, lg_14, lsq_0, lsl_0, lsq_1, lsl_1, lsq_2, lsl_2, lsq_3, lsl_3, lsq_4, lsl_4, lsq_5, lsl_5, lsq_6, lsl_6, lsq_7, lsl_7, lsq_8, lsl_8, lsq_9, lsl_9, lsq_10, lsl_10, lsq_11, lsl_11, lsq_12, lsl_12, lsq_13, lsl_13, lsq_14, lsl_14, tk_0, tk_1, tk_2, tk_3, tk_4, tk_5, tk_6, tk_7, tk_8, cs_n, cs_i, cs_l, cs_r, cs_u, nl, rt_s, rt_n, CST1, Nat.reduceAdd, Nat.reduceLeDiff, va_rf, rtOk, Bool.false_eq_true, Bool.true_eq_false, if_false, if_true, ite_true, ite_false, true_and, and_true, eq_self, ne_eq, not_false_eq_true, not_true_eq_false, false_implies, true_implies, and_self, reduceCtorEq, Nat.reduceBEq, Bool.or_false, Bool.false_or, Bool.or_true, Bool.true_or, if1_0, if1_1, if1_01, one_01, zer_01, lg_cmp_ge, lg_cmp_le, lg_cmp_gt, lg_cmp_lt, lg_cmp_eq, Classical.not_not, SHm hS, SHr hS, ml10, nI_add, ei, vi, ea, va]
  rcases x6 a b ha hb with ⟨e, e1, e2, e3⟩ | ⟨e1, e2⟩
  · have hq2 : ((w >>> (nI e &&& 31)) &&& 1 = 1) = (T e = true) := rw_bt hw (show e < 8 by omega) (by omega)
    have h0 : (nI e < 0) = False := nI_lt0 (by omega)
    have ho : opE R P D dA dB T bl a b = (R a b && !T e && !(bl && P a b)) := by unfold opE; rw [cl_e hN e1 e2]
    rw [ho] at hk
    cases hR : R a b <;> cases hT : T e <;> cases hP : P a b <;> cases bl
    all_goals
      simp only [hR, hT, hP, Bool.and_true, Bool.true_and, Bool.and_false, Bool.false_and, Bool.not_true, Bool.not_false, if_true, if_false, Bool.false_eq_true, ↓reduceIte] at hk
      repeat' (first | (with_reducible assumption) | (refine vp_in_iff.mpr ?_; ((try simp only [i_le, i_lt, i_eq, l_le, l_lt, l_eq, i_ne, l_ne, toL, l_add, l_sub1, LIT1, LIT2, Int.reduceNeg, ge_iff_le, gt_iff_lt] at *); omega)) | (refine And.intro ?_ ?_) | (omega) | (refine m_hasBit ?_; simp only [D_X12_isOpen, ↓reduceIte, vcS, vcC, vcI, gtF, ptF, inS, inV, fv0, fv1, fv2, fv3, fw0, fw1, lg_0, lg_1, lg_2, lg_3, lg_4, lg_5, lg_6, lg_7, lg_8, lg_9, lg_10, lg_11, lg_12, lg_13, lg_14, lsq_0, lsl_0, lsq_1, lsl_1, lsq_2, lsl_2, lsq_3, lsl_3, lsq_4, lsl_4, lsq_5, lsl_5, lsq_6, lsl_6, lsq_7, lsl_7, lsq_8, lsl_8, lsq_9, lsl_9, lsq_10, lsl_10, lsq_11, lsl_11, lsq_12, lsl_12, lsq_13, lsl_13, lsq_14, lsl_14, tk_0, tk_1, tk_2, tk_3, tk_4, tk_5, tk_6, tk_7, tk_8, cs_n, cs_i, cs_l, cs_r, cs_u, nl, rt_s, rt_n, CST1, Nat.reduceAdd, Nat.reduceLeDiff, va_rf, rtOk, Bool.false_eq_true, Bool.true_eq_false, if_false, if_true, ite_true, ite_false, true_and, and_true, eq_self, ne_eq, not_false_eq_true, not_true_eq_false, false_implies, true_implies, and_self, reduceCtorEq, Nat.reduceBEq, Bool.or_false, Bool.false_or, Bool.or_true, Bool.true_or, if1_0, if1_1, if1_01, one_01, zer_01, lg_cmp_ge, lg_cmp_le, lg_cmp_gt, lg_cmp_lt, lg_cmp_eq, Classical.not_not, SHm hS, SHr hS, ea, va, hq1, hq2, hq3, hR, hT, hP, e3, h0, z10]) | (with_reducible intro _))
    all_goals exact hk
  · have h0 : ((-9 : Int32) < 0) = True := eq_true (by decide)
    have ho : opE R P D dA dB T bl a b = (R a b && !(bl && P a b)) := by unfold opE; rw [cl_n e2, Bool.not_false, Bool.and_true]
    rw [ho] at hk
    cases hR : R a b <;> cases hP : P a b <;> cases bl
    all_goals
      simp only [hR, hP, Bool.and_true, Bool.true_and, Bool.and_false, Bool.false_and, Bool.not_true, Bool.not_false, if_true, if_false, Bool.false_eq_true, ↓reduceIte] at hk
      repeat' (first | (with_reducible assumption) | (refine vp_in_iff.mpr ?_; ((try simp only [i_le, i_lt, i_eq, l_le, l_lt, l_eq, i_ne, l_ne, toL, l_add, l_sub1, LIT1, LIT2, Int.reduceNeg, ge_iff_le, gt_iff_lt] at *); omega)) | (refine And.intro ?_ ?_) | (omega) | (refine m_hasBit ?_; simp only [D_X12_isOpen, ↓reduceIte, vcS, vcC, vcI, gtF, ptF, inS, inV, fv0, fv1, fv2, fv3, fw0, fw1, lg_0, lg_1, lg_2, lg_3, lg_4, lg_5, lg_6, lg_7, lg_8, lg_9, lg_10, lg_11, lg_12, lg_13, lg_14, lsq_0, lsl_0, lsq_1, lsl_1, lsq_2, lsl_2, lsq_3, lsl_3, lsq_4, lsl_4, lsq_5, lsl_5, lsq_6, lsl_6, lsq_7, lsl_7, lsq_8, lsl_8, lsq_9, lsl_9, lsq_10, lsl_10, lsq_11, lsl_11, lsq_12, lsl_12, lsq_13, lsl_13, lsq_14, lsl_14, tk_0, tk_1, tk_2, tk_3, tk_4, tk_5, tk_6, tk_7, tk_8, cs_n, cs_i, cs_l, cs_r, cs_u, nl, rt_s, rt_n, CST1, Nat.reduceAdd, Nat.reduceLeDiff, va_rf, rtOk, Bool.false_eq_true, Bool.true_eq_false, if_false, if_true, ite_true, ite_false, true_and, and_true, eq_self, ne_eq, not_false_eq_true, not_true_eq_false, false_implies, true_implies, and_self, reduceCtorEq, Nat.reduceBEq, Bool.or_false, Bool.false_or, Bool.or_true, Bool.true_or, if1_0, if1_1, if1_01, one_01, zer_01, lg_cmp_ge, lg_cmp_le, lg_cmp_gt, lg_cmp_lt, lg_cmp_eq, Classical.not_not, SHm hS, SHr hS, ea, va, hq1, hq3, hR, hP, e1, h0, z10]) | (with_reducible intro _))
    all_goals exact hk
theorem FM54 {s s' : aS} (h : ∀ x k, x ≠ 54 → s' x k = s x k) (hM : M_nt s R P D dA dB S) : M_nt s' R P D dA dB S := by
  have o : ∀ x, x ≠ 54 → s' x = s x := fun x hx => funext (fun k => h x k hx)
  unfold M_nt at *
  rw [o 49 (by decide), o 50 (by decide), o 48 (by decide), o 51 (by decide), o 52 (by decide), o 53 (by decide)]
  exact hM
set_option maxHeartbeats 4000000 in
set_option maxRecDepth 100000 in
theorem m_layFar {e : Nat} {w : Int32} {bl : Bool} (hS : Sh mu ro) (hd : 2 ≤ d) (hN : Nt R P D dA dB S) (hM : M_nt sg R P D dA dB S) (he : e < 10) (hw : rwO w 8 T) (hk : ∀ σ, farI (opE R P D dA dB T bl) (fun y => decide (y = e)) (σ 54) → (∀ x k, x ≠ 54 → σ x k = sg x k) → K none σ) : aCall d 172 [.ref 48, .int (nI e), .int w, .int (if bl = true then 1 else 0)] n mu ro sg K := by
  obtain ⟨E, hE⟩ : ∃ E, E = opE R P D dA dB T bl := ⟨_, rfl⟩
  rw [← hE] at hk
  refine aCall_start (mL := 7) (cc := cX12_layFar) (o := 12) (ret := none) 3 (by decide) (by decide +kernel) rfl rfl rfl rfl (Nat.le_of_ble_eq_true rfl) (fun G hC hG => ?_)
  simp only [exL, List.cons_append, List.nil_append, rp_0, rp_1, rp_2, rp_3, rp_4, rp_5, rp_6, rp_7, rp_8, rp_9, rp_10, rp_11, List.append_nil]
  have loR : ∀ (m r : Nat) (σ : aS) (v5 v6 : Value), r + m = 10 → faI E (fun y => decide (y = e)) (σ 54) r 0 0 → (∀ x k, x ≠ 54 → σ x k = sg x k) → AW G 7 n 0 0 mu ro σ 38 [.ref 48, .int (nI e), .int w, .int (if bl = true then 1 else 0), .int (nI r), v5, v6] [] := by
    intro m
    induction m with
    | zero =>
      intro r σ v5 v6 hr hI hF
      have hc : (10 ≤ nI r) = True := eq_true (by have := nI_toInt (n := r) (by omega); ((try simp only [i_le, i_lt, i_eq, l_le, l_lt, l_eq, i_ne, l_ne, toL, l_add, l_sub1, LIT1, LIT2, Int.reduceNeg, ge_iff_le, gt_iff_lt] at *); omega))
      have : r = 10 := by omega
      subst this
      refine hG (fun q => q == 3 || q == 38 || q == 48 || q == 58) 80 _ _ _ _ (Nat.le_of_ble_eq_true rfl) ?_
      simp only [D_X12_layFar, N_X12_layFar, ↓reduceIte, vcS, vcC, vcI, gtF, ptF, inS, inV, fv0, fv1, fv2, fv3, fw0, fw1, lg_0, lg_1, lg_2, lg_3, lg_4, lg_5, lg_6, lg_7, lg_8, lg_9, lg_10, lg_11, lg_12, lg_13, lg_14, lsq_0, lsl_0, lsq_1, lsl_1, lsq_2, lsl_2, lsq_3, lsl_3, lsq_4, lsl_4, lsq_5, lsl_5, lsq_6, lsl_6, lsq_7, lsl_7, lsq_8, lsl_8, lsq_9, lsl_9, lsq_10, lsl_10, lsq_11, lsl_11, lsq_12, lsl_12, lsq_13, lsl_13, lsq_14, lsl_14, tk_0, tk_1, tk_2, tk_3, tk_4, tk_5, tk_6, tk_7, tk_8, cs_n, cs_i, cs_l, cs_r, cs_u, nl, rt_s, rt_n, CST1, Nat.reduceAdd, Nat.reduceLeDiff, va_rf, rtOk, Bool.false_eq_true, Bool.true_eq_false, if_false, if_true, ite_true, ite_false, true_and, and_true, eq_self, ne_eq, not_false_eq_true, not_true_eq_false, false_implies, true_implies, and_self, reduceCtorEq, Nat.reduceBEq, Bool.or_false, Bool.false_or, Bool.or_true, Bool.true_or, if1_0, if1_1, if1_01, one_01, zer_01, lg_cmp_ge, lg_cmp_le, lg_cmp_gt, lg_cmp_lt, lg_cmp_eq, Classical.not_not, ↓im_T hc, ↓im_TN hc, hc]
      exact hk σ (fa_e hI) hF
    | succ m ih =>
      intro r σ v5 v6 hr hI hF
      have hc : (10 ≤ nI r) = False := eq_false (by have := nI_toInt (n := r) (by omega); ((try simp only [i_le, i_lt, i_eq, l_le, l_lt, l_eq, i_ne, l_ne, toL, l_add, l_sub1, LIT1, LIT2, Int.reduceNeg, ge_iff_le, gt_iff_lt] at *); omega))
      have loA : ∀ (mm a : Nat) (σ : aS) (v6 : Value), a + mm = 10 → faI E (fun y => decide (y = e)) (σ 54) r a 0 → (∀ x k, x ≠ 54 → σ x k = sg x k) → AW G 7 n 0 0 mu ro σ 48 [.ref 48, .int (nI e), .int w, .int (if bl = true then 1 else 0), .int (nI r), .int (nI a), v6] [] := by
        intro mm
        induction mm with
        | zero =>
          intro a σ v6 ha hI hF
          have hc2 : (10 ≤ nI a) = True := eq_true (by have := nI_toInt (n := a) (by omega); ((try simp only [i_le, i_lt, i_eq, l_le, l_lt, l_eq, i_ne, l_ne, toL, l_add, l_sub1, LIT1, LIT2, Int.reduceNeg, ge_iff_le, gt_iff_lt] at *); omega))
          have : a = 10 := by omega
          subst this
          refine hG (fun q => q == 3 || q == 38 || q == 48 || q == 58) 80 _ _ _ _ (Nat.le_of_ble_eq_true rfl) ?_
          simp only [D_X12_layFar, N_X12_layFar, ↓reduceIte, vcS, vcC, vcI, gtF, ptF, inS, inV, fv0, fv1, fv2, fv3, fw0, fw1, lg_0, lg_1, lg_2, lg_3, lg_4, lg_5, lg_6, lg_7, lg_8, lg_9, lg_10, lg_11, lg_12, lg_13, lg_14, lsq_0, lsl_0, lsq_1, lsl_1, lsq_2, lsl_2, lsq_3, lsl_3, lsq_4, lsl_4, lsq_5, lsl_5, lsq_6, lsl_6, lsq_7, lsl_7, lsq_8, lsl_8, lsq_9, lsl_9, lsq_10, lsl_10, lsq_11, lsl_11, lsq_12, lsl_12, lsq_13, lsl_13, lsq_14, lsl_14, tk_0, tk_1, tk_2, tk_3, tk_4, tk_5, tk_6, tk_7, tk_8, cs_n, cs_i, cs_l, cs_r, cs_u, nl, rt_s, rt_n, CST1, Nat.reduceAdd, Nat.reduceLeDiff, va_rf, rtOk, Bool.false_eq_true, Bool.true_eq_false, if_false, if_true, ite_true, ite_false, true_and, and_true, eq_self, ne_eq, not_false_eq_true, not_true_eq_false, false_implies, true_implies, and_self, reduceCtorEq, Nat.reduceBEq, Bool.or_false, Bool.false_or, Bool.or_true, Bool.true_or, if1_0, if1_1, if1_01, one_01, zer_01, lg_cmp_ge, lg_cmp_le, lg_cmp_gt, lg_cmp_lt, lg_cmp_eq, Classical.not_not, ↓im_T hc2, ↓im_TN hc2, hc2, nI_1]
          exact ih (r + 1) σ _ _ (by omega) (fa_r hI) hF
        | succ mm ih2 =>
          intro a σ v6 ha hI hF
          have hc2 : (10 ≤ nI a) = False := eq_false (by have := nI_toInt (n := a) (by omega); ((try simp only [i_le, i_lt, i_eq, l_le, l_lt, l_eq, i_ne, l_ne, toL, l_add, l_sub1, LIT1, LIT2, Int.reduceNeg, ge_iff_le, gt_iff_lt] at *); omega))
          have ea : (nI a).toNatClampNeg = a := nI_clamp (by omega)
          have va : vp_in (nI a) 10 := vp_in_nI (by omega) (by decide)
          by_cases hL : Lv E (fun y => decide (y = e)) r a
          · have loB : ∀ (mb b : Nat) (σ : aS), b + mb = 10 → faI E (fun y => decide (y = e)) (σ 54) r a b → (∀ x k, x ≠ 54 → σ x k = sg x k) → AW G 7 n 0 0 mu ro σ 58 [.ref 48, .int (nI e), .int w, .int (if bl = true then 1 else 0), .int (nI r), .int (nI a), .int (nI b)] [] := by
              intro mb
              induction mb with
              | zero =>
                intro b σ hb hI hF
                have hc3 : (10 ≤ nI b) = True := eq_true (by have := nI_toInt (n := b) (by omega); ((try simp only [i_le, i_lt, i_eq, l_le, l_lt, l_eq, i_ne, l_ne, toL, l_add, l_sub1, LIT1, LIT2, Int.reduceNeg, ge_iff_le, gt_iff_lt] at *); omega))
                have : b = 10 := by omega
                subst this
                refine hG (fun q => q == 3 || q == 38 || q == 48 || q == 58) 80 _ _ _ _ (Nat.le_of_ble_eq_true rfl) ?_
                simp only [D_X12_layFar, N_X12_layFar, ↓reduceIte, vcS, vcC, vcI, gtF, ptF, inS, inV, fv0, fv1, fv2, fv3, fw0, fw1, lg_0, lg_1, lg_2, lg_3, lg_4, lg_5, lg_6, lg_7, lg_8, lg_9, lg_10, lg_11, lg_12, lg_13, lg_14, lsq_0, lsl_0, lsq_1, lsl_1, lsq_2, lsl_2, lsq_3, lsl_3, lsq_4, lsl_4, lsq_5, lsl_5, lsq_6, lsl_6, lsq_7, lsl_7, lsq_8, lsl_8, lsq_9, lsl_9, lsq_10, lsl_10, lsq_11, lsl_11, lsq_12, lsl_12, lsq_13, lsl_13, lsq_14, lsl_14, tk_0, tk_1, tk_2, tk_3, tk_4, tk_5, tk_6, tk_7, tk_8, cs_n, cs_i, cs_l, cs_r, cs_u, nl, rt_s, rt_n, CST1, Nat.reduceAdd, Nat.reduceLeDiff, va_rf, rtOk, Bool.false_eq_true, Bool.true_eq_false, if_false, if_true, ite_true, ite_false, true_and, and_true, eq_self, ne_eq, not_false_eq_true, not_true_eq_false, false_implies, true_implies, and_self, reduceCtorEq, Nat.reduceBEq, Bool.or_false, Bool.false_or, Bool.or_true, Bool.true_or, if1_0, if1_1, if1_01, one_01, zer_01, lg_cmp_ge, lg_cmp_le, lg_cmp_gt, lg_cmp_lt, lg_cmp_eq, Classical.not_not, ↓im_T hc3, ↓im_TN hc3, hc3, nI_1]
                exact ih2 (a + 1) σ _ (by omega) (fa_a hI) hF
              | succ mb ih3 =>
                intro b σ hb hI hF
                have hc3 : (10 ≤ nI b) = False := eq_false (by have := nI_toInt (n := b) (by omega); ((try simp only [i_le, i_lt, i_eq, l_le, l_lt, l_eq, i_ne, l_ne, toL, l_add, l_sub1, LIT1, LIT2, Int.reduceNeg, ge_iff_le, gt_iff_lt] at *); omega))
                have eb : (nI b).toNatClampNeg = b := nI_clamp (by omega)
                have vb : vp_in (nI b) 10 := vp_in_nI (by omega) (by decide)
                have hLa : (σ 54 a = nI r) = True := eq_true ((fa_at hI (by omega) (show a < 10 by omega)).1.mpr hL)
                rcases (fa_at hI (by omega) (show b < 10 by omega)).2 with q9 | ⟨l, q8, q9⟩
                · have h0 : (0 ≤ (-9 : Int32)) = False := z90
                  refine hG (fun q => q == 3 || q == 38 || q == 48 || q == 58) 80 _ _ _ _ (Nat.le_of_ble_eq_true rfl) ?_
                  simp only [D_X12_layFar, N_X12_layFar, ↓reduceIte, vcS, vcC, vcI, gtF, ptF, inS, inV, fv0, fv1, fv2, fv3, fw0, fw1, lg_0, lg_1, lg_2, lg_3, lg_4, lg_5, lg_6, lg_7, lg_8, lg_9, lg_10, lg_11, lg_12, lg_13, lg_14, lsq_0, lsl_0, lsq_1, lsl_1, lsq_2, lsl_2, lsq_3, lsl_3, lsq_4, lsl_4, lsq_5, lsl_5, lsq_6, lsl_6, lsq_7, lsl_7, lsq_8, lsl_8, lsq_9, lsl_9, lsq_10, lsl_10, lsq_11, lsl_11, lsq_12, lsl_12, lsq_13, lsl_13, lsq_14, lsl_14, tk_0, tk_1, tk_2, tk_3, tk_4, tk_5, tk_6, tk_7, tk_8, cs_n, cs_i, cs_l, cs_r, cs_u, nl, rt_s, rt_n, CST1, Nat.reduceAdd, Nat.reduceLeDiff, va_rf, rtOk, Bool.false_eq_true, Bool.true_eq_false, if_false, if_true, ite_true, ite_false, true_and, and_true, eq_self, ne_eq, not_false_eq_true, not_true_eq_false, false_implies, true_implies, and_self, reduceCtorEq, Nat.reduceBEq, Bool.or_false, Bool.false_or, Bool.or_true, Bool.true_or, if1_0, if1_1, if1_01, one_01, zer_01, lg_cmp_ge, lg_cmp_le, lg_cmp_gt, lg_cmp_lt, lg_cmp_eq, Classical.not_not, ↓im_F hc3, ↓im_FN hc3, hc3, SHm hS, SHr hS, ea, va, ↓im_T hLa, ↓im_TN hLa, hLa, eb, vb, q9, h0]
                  refine ⟨by omega, m_isOpen hS (by omega) hN (FM54 hF hM) (by omega) (by omega) hw ?_⟩
                  rw [← hE]
                  simp only [D_X12_layFar, N_X12_layFar, ↓reduceIte, vcS, vcC, vcI, gtF, ptF, inS, inV, fv0, fv1, fv2, fv3, fw0, fw1, lg_0, lg_1, lg_2, lg_3, lg_4, lg_5, lg_6, lg_7, lg_8, lg_9, lg_10, lg_11, lg_12, lg_13, lg_14, lsq_0, lsl_0, lsq_1, lsl_1, lsq_2, lsl_2, lsq_3, lsl_3, lsq_4, lsl_4, lsq_5, lsl_5, lsq_6, lsl_6, lsq_7, lsl_7, lsq_8, lsl_8, lsq_9, lsl_9, lsq_10, lsl_10, lsq_11, lsl_11, lsq_12, lsl_12, lsq_13, lsl_13, lsq_14, lsl_14, tk_0, tk_1, tk_2, tk_3, tk_4, tk_5, tk_6, tk_7, tk_8, cs_n, cs_i, cs_l, cs_r, cs_u, nl, rt_s, rt_n, CST1, Nat.reduceAdd, Nat.reduceLeDiff, va_rf, rtOk, Bool.false_eq_true, Bool.true_eq_false, if_false, if_true, ite_true, ite_false, true_and, and_true, eq_self, ne_eq, not_false_eq_true, not_true_eq_false, false_implies, true_implies, and_self, reduceCtorEq, Nat.reduceBEq, Bool.or_false, Bool.false_or, Bool.or_true, Bool.true_or, if1_0, if1_1, if1_01, one_01, zer_01, lg_cmp_ge, lg_cmp_le, lg_cmp_gt, lg_cmp_lt, lg_cmp_eq, Classical.not_not, SHm hS, SHr hS, eb, vb, q9, nI_1]
                  refine ⟨fun q => ?_, fun q => ?_⟩
                  · refine ih3 (b + 1) _ (by omega) (fa_b (by omega) hI (by omega) (by omega) hL (fun x hx => s2_n (by omega)) (by rw [s2_y ⟨rfl, rfl⟩, if_neg (fun z => q z.2), q9])) (fun x k h => by rw [s2_n (by omega)]; exact hF x k h)
                  · refine ih3 (b + 1) _ (by omega) (fa_b (by omega) hI (by omega) (by omega) hL (fun x hx => s2_n (by omega)) (by rw [s2_y ⟨rfl, rfl⟩, if_pos ⟨q9, q⟩])) (fun x k h => by rw [s2_n (by omega)]; exact hF x k h)
                · have h0 : (0 ≤ nI l) = True := nI_ge0 (by omega)
                  have n9 := nI_n9 (a := l) (by omega)
                  refine hG (fun q => q == 3 || q == 38 || q == 48 || q == 58) 80 _ _ _ _ (Nat.le_of_ble_eq_true rfl) ?_
                  simp only [D_X12_layFar, N_X12_layFar, ↓reduceIte, vcS, vcC, vcI, gtF, ptF, inS, inV, fv0, fv1, fv2, fv3, fw0, fw1, lg_0, lg_1, lg_2, lg_3, lg_4, lg_5, lg_6, lg_7, lg_8, lg_9, lg_10, lg_11, lg_12, lg_13, lg_14, lsq_0, lsl_0, lsq_1, lsl_1, lsq_2, lsl_2, lsq_3, lsl_3, lsq_4, lsl_4, lsq_5, lsl_5, lsq_6, lsl_6, lsq_7, lsl_7, lsq_8, lsl_8, lsq_9, lsl_9, lsq_10, lsl_10, lsq_11, lsl_11, lsq_12, lsl_12, lsq_13, lsl_13, lsq_14, lsl_14, tk_0, tk_1, tk_2, tk_3, tk_4, tk_5, tk_6, tk_7, tk_8, cs_n, cs_i, cs_l, cs_r, cs_u, nl, rt_s, rt_n, CST1, Nat.reduceAdd, Nat.reduceLeDiff, va_rf, rtOk, Bool.false_eq_true, Bool.true_eq_false, if_false, if_true, ite_true, ite_false, true_and, and_true, eq_self, ne_eq, not_false_eq_true, not_true_eq_false, false_implies, true_implies, and_self, reduceCtorEq, Nat.reduceBEq, Bool.or_false, Bool.false_or, Bool.or_true, Bool.true_or, if1_0, if1_1, if1_01, one_01, zer_01, lg_cmp_ge, lg_cmp_le, lg_cmp_gt, lg_cmp_lt, lg_cmp_eq, Classical.not_not, ↓im_F hc3, ↓im_FN hc3, hc3, SHm hS, SHr hS, ea, va, ↓im_T hLa, ↓im_TN hLa, hLa, eb, vb, q9, h0, nI_1]
                  refine ih3 (b + 1) _ (by omega) (fa_b (by omega) hI (by omega) (by omega) hL (fun x hx => s2_n (by omega)) (by rw [s2_y ⟨rfl, rfl⟩, q9, if_neg (fun z => by rw [n9] at z; exact z.1)])) (fun x k h => by rw [s2_n (by omega)]; exact hF x k h)
            refine hG (fun q => q == 3 || q == 38 || q == 48 || q == 58) 80 _ _ _ _ (Nat.le_of_ble_eq_true rfl) ?_
            simp only [D_X12_layFar, N_X12_layFar, ↓reduceIte, vcS, vcC, vcI, gtF, ptF, inS, inV, fv0, fv1, fv2, fv3, fw0, fw1, lg_0, lg_1, lg_2, lg_3, lg_4, lg_5, lg_6, lg_7, lg_8, lg_9, lg_10, lg_11, lg_12, lg_13, lg_14, lsq_0, lsl_0, lsq_1, lsl_1, lsq_2, lsl_2, lsq_3, lsl_3, lsq_4, lsl_4, lsq_5, lsl_5, lsq_6, lsl_6, lsq_7, lsl_7, lsq_8, lsl_8, lsq_9, lsl_9, lsq_10, lsl_10, lsq_11, lsl_11, lsq_12, lsl_12, lsq_13, lsl_13, lsq_14, lsl_14, tk_0, tk_1, tk_2, tk_3, tk_4, tk_5, tk_6, tk_7, tk_8, cs_n, cs_i, cs_l, cs_r, cs_u, nl, rt_s, rt_n, CST1, Nat.reduceAdd, Nat.reduceLeDiff, va_rf, rtOk, Bool.false_eq_true, Bool.true_eq_false, if_false, if_true, ite_true, ite_false, true_and, and_true, eq_self, ne_eq, not_false_eq_true, not_true_eq_false, false_implies, true_implies, and_self, reduceCtorEq, Nat.reduceBEq, Bool.or_false, Bool.false_or, Bool.or_true, Bool.true_or, if1_0, if1_1, if1_01, one_01, zer_01, lg_cmp_ge, lg_cmp_le, lg_cmp_gt, lg_cmp_lt, lg_cmp_eq, Classical.not_not, ↓im_F hc2, ↓im_FN hc2, hc2]
            exact loB 10 0 σ (by omega) hI hF
          · have hLa : (σ 54 a = nI r) = False := eq_false (fun z => hL ((fa_at hI (by omega) (show a < 10 by omega)).1.mp z))
            have hc3 : (10 ≤ (0 : Int32)) = False := eq_false (by decide)
            have loB0 : AW G 7 n 0 0 mu ro σ 58 [.ref 48, .int (nI e), .int w, .int (if bl = true then 1 else 0), .int (nI r), .int (nI a), .int 0] [] := by
              refine hG (fun q => q == 3 || q == 38 || q == 48 || q == 58) 80 _ _ _ _ (Nat.le_of_ble_eq_true rfl) ?_
              simp only [D_X12_layFar, N_X12_layFar, ↓reduceIte, vcS, vcC, vcI, gtF, ptF, inS, inV, fv0, fv1, fv2, fv3, fw0, fw1, lg_0, lg_1, lg_2, lg_3, lg_4, lg_5, lg_6, lg_7, lg_8, lg_9, lg_10, lg_11, lg_12, lg_13, lg_14, lsq_0, lsl_0, lsq_1, lsl_1, lsq_2, lsl_2, lsq_3, lsl_3, lsq_4, lsl_4, lsq_5, lsl_5, lsq_6, lsl_6, lsq_7, lsl_7, lsq_8, lsl_8, lsq_9, lsl_9, lsq_10, lsl_10, lsq_11, lsl_11, lsq_12, lsl_12, lsq_13, lsl_13, lsq_14, lsl_14, tk_0, tk_1, tk_2, tk_3, tk_4, tk_5, tk_6, tk_7, tk_8, cs_n, cs_i, cs_l, cs_r, cs_u, nl, rt_s, rt_n, CST1, Nat.reduceAdd, Nat.reduceLeDiff, va_rf, rtOk, Bool.false_eq_true, Bool.true_eq_false, if_false, if_true, ite_true, ite_false, true_and, and_true, eq_self, ne_eq, not_false_eq_true, not_true_eq_false, false_implies, true_implies, and_self, reduceCtorEq, Nat.reduceBEq, Bool.or_false, Bool.false_or, Bool.or_true, Bool.true_or, if1_0, if1_1, if1_01, one_01, zer_01, lg_cmp_ge, lg_cmp_le, lg_cmp_gt, lg_cmp_lt, lg_cmp_eq, Classical.not_not, ↓im_F hc3, ↓im_FN hc3, hc3, SHm hS, SHr hS, ea, va, ↓im_F hLa, ↓im_FN hLa, hLa, nI_1]
              exact ih2 (a + 1) σ _ (by omega) (fa_n hI hL) hF
            refine hG (fun q => q == 3 || q == 38 || q == 48 || q == 58) 80 _ _ _ _ (Nat.le_of_ble_eq_true rfl) ?_
            simp only [D_X12_layFar, N_X12_layFar, ↓reduceIte, vcS, vcC, vcI, gtF, ptF, inS, inV, fv0, fv1, fv2, fv3, fw0, fw1, lg_0, lg_1, lg_2, lg_3, lg_4, lg_5, lg_6, lg_7, lg_8, lg_9, lg_10, lg_11, lg_12, lg_13, lg_14, lsq_0, lsl_0, lsq_1, lsl_1, lsq_2, lsl_2, lsq_3, lsl_3, lsq_4, lsl_4, lsq_5, lsl_5, lsq_6, lsl_6, lsq_7, lsl_7, lsq_8, lsl_8, lsq_9, lsl_9, lsq_10, lsl_10, lsq_11, lsl_11, lsq_12, lsl_12, lsq_13, lsl_13, lsq_14, lsl_14, tk_0, tk_1, tk_2, tk_3, tk_4, tk_5, tk_6, tk_7, tk_8, cs_n, cs_i, cs_l, cs_r, cs_u, nl, rt_s, rt_n, CST1, Nat.reduceAdd, Nat.reduceLeDiff, va_rf, rtOk, Bool.false_eq_true, Bool.true_eq_false, if_false, if_true, ite_true, ite_false, true_and, and_true, eq_self, ne_eq, not_false_eq_true, not_true_eq_false, false_implies, true_implies, and_self, reduceCtorEq, Nat.reduceBEq, Bool.or_false, Bool.false_or, Bool.or_true, Bool.true_or, if1_0, if1_1, if1_01, one_01, zer_01, lg_cmp_ge, lg_cmp_le, lg_cmp_gt, lg_cmp_lt, lg_cmp_eq, Classical.not_not, ↓im_F hc2, ↓im_FN hc2, hc2]
            exact loB0
      refine hG (fun q => q == 3 || q == 38 || q == 48 || q == 58) 80 _ _ _ _ (Nat.le_of_ble_eq_true rfl) ?_
      simp only [D_X12_layFar, N_X12_layFar, ↓reduceIte, vcS, vcC, vcI, gtF, ptF, inS, inV, fv0, fv1, fv2, fv3, fw0, fw1, lg_0, lg_1, lg_2, lg_3, lg_4, lg_5, lg_6, lg_7, lg_8, lg_9, lg_10, lg_11, lg_12, lg_13, lg_14, lsq_0, lsl_0, lsq_1, lsl_1, lsq_2, lsl_2, lsq_3, lsl_3, lsq_4, lsl_4, lsq_5, lsl_5, lsq_6, lsl_6, lsq_7, lsl_7, lsq_8, lsl_8, lsq_9, lsl_9, lsq_10, lsl_10, lsq_11, lsl_11, lsq_12, lsl_12, lsq_13, lsl_13, lsq_14, lsl_14, tk_0, tk_1, tk_2, tk_3, tk_4, tk_5, tk_6, tk_7, tk_8, cs_n, cs_i, cs_l, cs_r, cs_u, nl, rt_s, rt_n, CST1, Nat.reduceAdd, Nat.reduceLeDiff, va_rf, rtOk, Bool.false_eq_true, Bool.true_eq_false, if_false, if_true, ite_true, ite_false, true_and, and_true, eq_self, ne_eq, not_false_eq_true, not_true_eq_false, false_implies, true_implies, and_self, reduceCtorEq, Nat.reduceBEq, Bool.or_false, Bool.false_or, Bool.or_true, Bool.true_or, if1_0, if1_1, if1_01, one_01, zer_01, lg_cmp_ge, lg_cmp_le, lg_cmp_gt, lg_cmp_lt, lg_cmp_eq, Classical.not_not, ↓im_F hc, ↓im_FN hc, hc]
      exact loA 10 0 σ _ (by omega) hI hF
  have lo1 : ∀ (m i : Nat) (v5 v6 : Value), i + m = 10 → AW G 7 n 0 0 mu ro (rgS sg 54 0 i (fun x => if x = e then 0 else -9)) 3 [.ref 48, .int (nI e), .int w, .int (if bl = true then 1 else 0), .int (nI i), v5, v6] [] := by
    intro m
    induction m with
    | zero =>
      intro i v5 v6 hi
      have hc : (10 ≤ nI i) = True := eq_true (by have := nI_toInt (n := i) (by omega); ((try simp only [i_le, i_lt, i_eq, l_le, l_lt, l_eq, i_ne, l_ne, toL, l_add, l_sub1, LIT1, LIT2, Int.reduceNeg, ge_iff_le, gt_iff_lt] at *); omega))
      refine hG (fun q => q == 3 || q == 38 || q == 48 || q == 58) 80 _ _ _ _ (Nat.le_of_ble_eq_true rfl) ?_
      simp only [D_X12_layFar, N_X12_layFar, ↓reduceIte, vcS, vcC, vcI, gtF, ptF, inS, inV, fv0, fv1, fv2, fv3, fw0, fw1, lg_0, lg_1, lg_2, lg_3, lg_4, lg_5, lg_6, lg_7, lg_8, lg_9, lg_10, lg_11, lg_12, lg_13, lg_14, lsq_0, lsl_0, lsq_1, lsl_1, lsq_2, lsl_2, lsq_3, lsl_3, lsq_4, lsl_4, lsq_5, lsl_5, lsq_6, lsl_6, lsq_7, lsl_7, lsq_8, lsl_8, lsq_9, lsl_9, lsq_10, lsl_10, lsq_11, lsl_11, lsq_12, lsl_12, lsq_13, lsl_13, lsq_14, lsl_14, tk_0, tk_1, tk_2, tk_3, tk_4, tk_5, tk_6, tk_7, tk_8, cs_n, cs_i, cs_l, cs_r, cs_u, nl, rt_s, rt_n, CST1, Nat.reduceAdd, Nat.reduceLeDiff, va_rf, rtOk, Bool.false_eq_true, Bool.true_eq_false, if_false, if_true, ite_true, ite_false, true_and, and_true, eq_self, ne_eq, not_false_eq_true, not_true_eq_false, false_implies, true_implies, and_self, reduceCtorEq, Nat.reduceBEq, Bool.or_false, Bool.false_or, Bool.or_true, Bool.true_or, if1_0, if1_1, if1_01, one_01, zer_01, lg_cmp_ge, lg_cmp_le, lg_cmp_gt, lg_cmp_lt, lg_cmp_eq, Classical.not_not, ↓im_T hc, ↓im_TN hc, hc]
      refine loR 10 0 _ _ _ (by omega) (fa_0 (fun x hx => ?_)) (fun x k h => rg_n (by omega))
      rw [rg_y ⟨rfl, by omega, by omega⟩, Nat.sub_zero]
    | succ m ih =>
      intro i v5 v6 hi
      have hc : (10 ≤ nI i) = False := eq_false (by have := nI_toInt (n := i) (by omega); ((try simp only [i_le, i_lt, i_eq, l_le, l_lt, l_eq, i_ne, l_ne, toL, l_add, l_sub1, LIT1, LIT2, Int.reduceNeg, ge_iff_le, gt_iff_lt] at *); omega))
      have ei : (nI i).toNatClampNeg = i := nI_clamp (by omega)
      have vi : vp_in (nI i) 10 := vp_in_nI (by omega) (by decide)
      have ie : (nI i = nI e) = (i = e) := propext (nI_eq (by omega) (by omega))
      have h0 := ih (i + 1) v5 v6 (by omega)
      rw [← rg_s (j := i) (x := if i = e then 0 else -9) (by omega) rfl] at h0
      refine hG (fun q => q == 3 || q == 38 || q == 48 || q == 58) 80 _ _ _ _ (Nat.le_of_ble_eq_true rfl) ?_
      simp only [D_X12_layFar, N_X12_layFar, ↓reduceIte, vcS, vcC, vcI, gtF, ptF, inS, inV, fv0, fv1, fv2, fv3, fw0, fw1, lg_0, lg_1, lg_2, lg_3, lg_4, lg_5, lg_6, lg_7, lg_8, lg_9, lg_10, lg_11, lg_12, lg_13, lg_14, lsq_0, lsl_0, lsq_1, lsl_1, lsq_2, lsl_2, lsq_3, lsl_3, lsq_4, lsl_4, lsq_5, lsl_5, lsq_6, lsl_6, lsq_7, lsl_7, lsq_8, lsl_8, lsq_9, lsl_9, lsq_10, lsl_10, lsq_11, lsl_11, lsq_12, lsl_12, lsq_13, lsl_13, lsq_14, lsl_14, tk_0, tk_1, tk_2, tk_3, tk_4, tk_5, tk_6, tk_7, tk_8, cs_n, cs_i, cs_l, cs_r, cs_u, nl, rt_s, rt_n, CST1, Nat.reduceAdd, Nat.reduceLeDiff, va_rf, rtOk, Bool.false_eq_true, Bool.true_eq_false, if_false, if_true, ite_true, ite_false, true_and, and_true, eq_self, ne_eq, not_false_eq_true, not_true_eq_false, false_implies, true_implies, and_self, reduceCtorEq, Nat.reduceBEq, Bool.or_false, Bool.false_or, Bool.or_true, Bool.true_or, if1_0, if1_1, if1_01, one_01, zer_01, lg_cmp_ge, lg_cmp_le, lg_cmp_gt, lg_cmp_lt, lg_cmp_eq, Classical.not_not, ↓im_F hc, ↓im_FN hc, hc, SHm hS, SHr hS, ei, vi, ie, nI_1]
      refine ⟨fun q => ?_, fun q => ?_⟩
      · rw [if_neg q] at h0; exact h0
      · rw [if_pos q] at h0; exact h0
  refine hG (fun q => q == 3 || q == 38 || q == 48 || q == 58) 80 _ _ _ _ (Nat.le_of_ble_eq_true rfl) ?_
  simp only [D_X12_layFar, N_X12_layFar, ↓reduceIte, vcS, vcC, vcI, gtF, ptF, inS, inV, fv0, fv1, fv2, fv3, fw0, fw1, lg_0, lg_1, lg_2, lg_3, lg_4, lg_5, lg_6, lg_7, lg_8, lg_9, lg_10, lg_11, lg_12, lg_13, lg_14, lsq_0, lsl_0, lsq_1, lsl_1, lsq_2, lsl_2, lsq_3, lsl_3, lsq_4, lsl_4, lsq_5, lsl_5, lsq_6, lsl_6, lsq_7, lsl_7, lsq_8, lsl_8, lsq_9, lsl_9, lsq_10, lsl_10, lsq_11, lsl_11, lsq_12, lsl_12, lsq_13, lsl_13, lsq_14, lsl_14, tk_0, tk_1, tk_2, tk_3, tk_4, tk_5, tk_6, tk_7, tk_8, cs_n, cs_i, cs_l, cs_r, cs_u, nl, rt_s, rt_n, CST1, Nat.reduceAdd, Nat.reduceLeDiff, va_rf, rtOk, Bool.false_eq_true, Bool.true_eq_false, if_false, if_true, ite_true, ite_false, true_and, and_true, eq_self, ne_eq, not_false_eq_true, not_true_eq_false, false_implies, true_implies, and_self, reduceCtorEq, Nat.reduceBEq, Bool.or_false, Bool.false_or, Bool.or_true, Bool.true_or, if1_0, if1_1, if1_01, one_01, zer_01, lg_cmp_ge, lg_cmp_le, lg_cmp_gt, lg_cmp_lt, lg_cmp_eq, Classical.not_not]
  have := lo1 10 0 (.float 0) (.float 0) (by omega)
  rw [rg_0] at this
  exact this
set_option maxHeartbeats 4000000 in
set_option maxRecDepth 100000 in
theorem m_nextOn {a l : Nat} (hS : Sh mu ro) (hd : 2 ≤ d) (hN : Nt R P D dA dB S) (hM : M_nt sg R P D dA dB S) (ha : a < 10) (hf : farI (opE R P D dA dB S false) A (sg 54)) (hL : Lv (opE R P D dA dB S false) A (l + 1) a) (hk : K (some (.int (nI (nxF (opE R P D dA dB S false) (sg 54) a)))) sg) : aCall d 173 [.ref 48, .int (nI a)] n mu ro sg K := by
  have ea : (nI a).toNatClampNeg = a := nI_clamp (by omega)
  have va : vp_in (nI a) 10 := vp_in_nI (by omega) (by decide)
  obtain ⟨ex, -, -, -⟩ := nx_ok hf (fun a b ha hb => op_c hN ha hb) ha hL
  obtain ⟨E, hE⟩ : ∃ E, E = opE R P D dA dB S false := ⟨_, rfl⟩
  rw [← hE] at hk ex
  refine aCall_start (mL := 3) (cc := cX12_nextOn) (o := 12) (ret := (some .int)) 1 (by decide) (by decide +kernel) rfl rfl rfl rfl (Nat.le_of_ble_eq_true rfl) (fun G hC hG => ?_)
  simp only [exL, List.cons_append, List.nil_append, rp_0, rp_1, rp_2, rp_3, rp_4, rp_5, rp_6, rp_7, rp_8, rp_9, rp_10, rp_11, List.append_nil]
  have lo : ∀ (m b : Nat), b + m = 10 → (∃ y, b ≤ y ∧ y < b + m ∧ (E a y && decide (sg 54 y = sg 54 a - 1)) = true) → nxF E (sg 54) a = fsG (fun b => E a b && decide (sg 54 b = sg 54 a - 1)) m b → AW G 3 n 0 0 mu ro sg 2 [.ref 48, .int (nI a), .int (nI b)] [] := by
    intro m
    induction m with
    | zero =>
      intro b hb hx he
      obtain ⟨y, h1, h2, _⟩ := hx
      exact absurd h2 (by omega)
    | succ m ih =>
      intro b hb hx he
      have hc : (10 ≤ nI b) = False := eq_false (by have := nI_toInt (n := b) (by omega); ((try simp only [i_le, i_lt, i_eq, l_le, l_lt, l_eq, i_ne, l_ne, toL, l_add, l_sub1, LIT1, LIT2, Int.reduceNeg, ge_iff_le, gt_iff_lt] at *); omega))
      have eb : (nI b).toNatClampNeg = b := nI_clamp (by omega)
      have vb : vp_in (nI b) 10 := vp_in_nI (by omega) (by decide)
      rw [fsG] at he
      have no : ¬ (E a b = true ∧ sg 54 b = sg 54 a - 1) → AW G 3 n 0 0 mu ro sg 2 [.ref 48, .int (nI a), .int (nI (b + 1))] [] := by
        intro z
        have z' : ¬ (E a b && decide (sg 54 b = sg 54 a - 1)) = true := by
          rw [Bool.and_eq_true, decide_eq_true_iff]
          exact z
        rw [if_neg z'] at he
        obtain ⟨y, h1, h2, h3⟩ := hx
        have hy : b ≠ y := by rintro rfl; exact z' h3
        exact ih (b + 1) (by omega) ⟨y, by omega, by omega, h3⟩ he
      refine hG (fun q => q == 2) 80 _ _ _ _ (Nat.le_of_ble_eq_true rfl) ?_
      simp only [D_X12_nextOn, N_X12_nextOn, ↓reduceIte, vcS, vcC, vcI, gtF, ptF, inS, inV, fv0, fv1, fv2, fv3, fw0, fw1, lg_0, lg_1, lg_2, lg_3, lg_4, lg_5, lg_6, lg_7, lg_8, lg_9, lg_10, lg_11, lg_12, lg_13, lg_14, lsq_0, lsl_0, lsq_1, lsl_1, lsq_2, lsl_2, lsq_3, lsl_3, lsq_4, lsl_4, lsq_5, lsl_5, lsq_6, lsl_6, lsq_7, lsl_7, lsq_8, lsl_8, lsq_9, lsl_9, lsq_10, lsl_10, lsq_11, lsl_11, lsq_12, lsl_12, lsq_13, lsl_13, lsq_14, lsl_14, tk_0, tk_1, tk_2, tk_3, tk_4, tk_5, tk_6, tk_7, tk_8, cs_n, cs_i, cs_l, cs_r, cs_u, nl, rt_s, rt_n, CST1, Nat.reduceAdd, Nat.reduceLeDiff, va_rf, rtOk, Bool.false_eq_true, Bool.true_eq_false, if_false, if_true, ite_true, ite_false, true_and, and_true, eq_self, ne_eq, not_false_eq_true, not_true_eq_false, false_implies, true_implies, and_self, reduceCtorEq, Nat.reduceBEq, Bool.or_false, Bool.false_or, Bool.or_true, Bool.true_or, if1_0, if1_1, if1_01, one_01, zer_01, lg_cmp_ge, lg_cmp_le, lg_cmp_gt, lg_cmp_lt, lg_cmp_eq, Classical.not_not, ↓im_F hc, ↓im_FN hc, hc, SHm hS, SHr hS, ea, va, eb, vb, nI_1]
      refine ⟨fun q => no (fun z => q z.2), fun q => ⟨by omega, m_isOpen (bl := false) hS (by omega) hN hM ha (by omega) hM.2.2.2.2.1 ?_⟩⟩
      rw [← hE]
      simp only [D_X12_nextOn, N_X12_nextOn, ↓reduceIte, vcS, vcC, vcI, gtF, ptF, inS, inV, fv0, fv1, fv2, fv3, fw0, fw1, lg_0, lg_1, lg_2, lg_3, lg_4, lg_5, lg_6, lg_7, lg_8, lg_9, lg_10, lg_11, lg_12, lg_13, lg_14, lsq_0, lsl_0, lsq_1, lsl_1, lsq_2, lsl_2, lsq_3, lsl_3, lsq_4, lsl_4, lsq_5, lsl_5, lsq_6, lsl_6, lsq_7, lsl_7, lsq_8, lsl_8, lsq_9, lsl_9, lsq_10, lsl_10, lsq_11, lsl_11, lsq_12, lsl_12, lsq_13, lsl_13, lsq_14, lsl_14, tk_0, tk_1, tk_2, tk_3, tk_4, tk_5, tk_6, tk_7, tk_8, cs_n, cs_i, cs_l, cs_r, cs_u, nl, rt_s, rt_n, CST1, Nat.reduceAdd, Nat.reduceLeDiff, va_rf, rtOk, Bool.false_eq_true, Bool.true_eq_false, if_false, if_true, ite_true, ite_false, true_and, and_true, eq_self, ne_eq, not_false_eq_true, not_true_eq_false, false_implies, true_implies, and_self, reduceCtorEq, Nat.reduceBEq, Bool.or_false, Bool.false_or, Bool.or_true, Bool.true_or, if1_0, if1_1, if1_01, one_01, zer_01, lg_cmp_ge, lg_cmp_le, lg_cmp_gt, lg_cmp_lt, lg_cmp_eq, Classical.not_not, SHm hS, SHr hS, nI_1]
      refine ⟨fun q2 => no (fun z => q2 z.1), fun q2 => ?_⟩
      rw [if_pos (by rw [Bool.and_eq_true, decide_eq_true_iff]; exact ⟨q2, q⟩)] at he
      rw [he] at hk
      exact hk
  refine hG (fun q => q == 2) 80 _ _ _ _ (Nat.le_of_ble_eq_true rfl) ?_
  simp only [D_X12_nextOn, N_X12_nextOn, ↓reduceIte, vcS, vcC, vcI, gtF, ptF, inS, inV, fv0, fv1, fv2, fv3, fw0, fw1, lg_0, lg_1, lg_2, lg_3, lg_4, lg_5, lg_6, lg_7, lg_8, lg_9, lg_10, lg_11, lg_12, lg_13, lg_14, lsq_0, lsl_0, lsq_1, lsl_1, lsq_2, lsl_2, lsq_3, lsl_3, lsq_4, lsl_4, lsq_5, lsl_5, lsq_6, lsl_6, lsq_7, lsl_7, lsq_8, lsl_8, lsq_9, lsl_9, lsq_10, lsl_10, lsq_11, lsl_11, lsq_12, lsl_12, lsq_13, lsl_13, lsq_14, lsl_14, tk_0, tk_1, tk_2, tk_3, tk_4, tk_5, tk_6, tk_7, tk_8, cs_n, cs_i, cs_l, cs_r, cs_u, nl, rt_s, rt_n, CST1, Nat.reduceAdd, Nat.reduceLeDiff, va_rf, rtOk, Bool.false_eq_true, Bool.true_eq_false, if_false, if_true, ite_true, ite_false, true_and, and_true, eq_self, ne_eq, not_false_eq_true, not_true_eq_false, false_implies, true_implies, and_self, reduceCtorEq, Nat.reduceBEq, Bool.or_false, Bool.false_or, Bool.or_true, Bool.true_or, if1_0, if1_1, if1_01, one_01, zer_01, lg_cmp_ge, lg_cmp_le, lg_cmp_gt, lg_cmp_lt, lg_cmp_eq, Classical.not_not]
  exact lo 10 0 (by omega) ex rfl
end H49
