/-! part 63: scan, what both sides do with one row and one talk -/
section H63
variable {d n N T Q F F0 : Nat} {mu : aM} {ro : aR} {sg σ : aS} {K : Option Value → aS → Prop} {tb rb : Nat → Nat} {fr ft : Nat → Nat} {w : Int32}
def fdC (a k : Nat) : Prop := (15 ≤ a ∧ a ≤ 20) ∨ (65 ≤ a ∧ a ≤ 68) ∨ (a = 48 ∧ k = 21)
/-- nothing but findings has changed -/
def FdF (s s' : aS) : Prop := ∀ a k, ¬ fdC a k → s' a k = s a k
theorem FdF.at {s s' : aS} (h : FdF s s') {a : Nat} (ha : ¬ (15 ≤ a ∧ a ≤ 20)) (hb : ¬ (65 ≤ a ∧ a ≤ 68)) (hc : a ≠ 48) : s' a = s a := funext (fun k => h a k (by unfold fdC; omega))
theorem FdF.tr {s s' s'' : aS} (h : FdF s s') (h2 : FdF s' s'') : FdF s s'' := fun a k q => (h2 a k q).trans (h a k q)
theorem I_tk.fd {s s' : aS} (h : I_tk s T tb) (hT : S_tk mu ro n T tb) (hf : FdF s s') : I_tk s' T tb := by
  obtain ⟨⟨h1, h2⟩, h3, h4, h5⟩ := h
  refine ⟨⟨by rw [hf.at (a := 0) (by omega) (by omega) (by omega)]; exact h1, by rw [hf 48 9 (by unfold fdC; omega)]; exact h2⟩, h3, fun t ht => ?_, fun t ht ht2 => ?_⟩
  · have ha := (hT t ht).2.2.2.2.2.2.1
    have := h4 t ht
    unfold I_t1 at *
    rw [hf.at (a := tb t) (by omega) (by omega) (by omega), hf.at (a := tb t + 1) (by omega) (by omega) (by omega), hf.at (a := tb t + 2) (by omega) (by omega) (by omega), hf.at (a := 55) (by omega) (by omega) (by omega), hf.at (a := 56) (by omega) (by omega) (by omega), hf.at (a := 57) (by omega) (by omega) (by omega), hf.at (a := 58) (by omega) (by omega) (by omega), hf.at (a := 59) (by omega) (by omega) (by omega), hf.at (a := 60) (by omega) (by omega) (by omega), hf.at (a := 61) (by omega) (by omega) (by omega), hf.at (a := 62) (by omega) (by omega) (by omega)]
    exact this
  · have := h5 t ht ht2
    unfold I_t0 at *
    rw [hf.at (a := 58) (by omega) (by omega) (by omega), hf.at (a := 59) (by omega) (by omega) (by omega), hf.at (a := 60) (by omega) (by omega) (by omega), hf.at (a := 61) (by omega) (by omega) (by omega)]
    exact this
theorem I_rw.fd {s s' : aS} (h : I_rw s Q rb) (hR : S_rw mu ro n Q rb) (hf : FdF s s') : I_rw s' Q rb := by
  obtain ⟨⟨h1, h2⟩, h3, h4⟩ := h
  refine ⟨⟨by rw [hf.at (a := 0) (by omega) (by omega) (by omega)]; exact h1, by rw [hf 48 18 (by unfold fdC; omega)]; exact h2⟩, h3, fun r hr => ?_⟩
  have hb := (hR r hr).2.2.2.2.1
  rw [hf.at (a := rb r) (by omega) (by omega) (by omega), hf.at (a := rb r + 1) (by omega) (by omega) (by omega), hf.at (a := 63) (by omega) (by omega) (by omega), hf.at (a := 64) (by omega) (by omega) (by omega)]
  exact h4 r hr
-- pure
def hitV (s : aS) (r t : Nat) (v : Int32) : Bool := decide (fsG (fpF s r t v (s 63 r).toNatClampNeg (jnJ s t)) (jnJ s t) 0 < jnJ s t)
def hitB (s : aS) (r t : Nat) : Bool := decide (s 55 t = 0) && (hitV s r t 0 || hitV s r t 1)
theorem hit_cg {s s' : aS} (hf : FdF s s') (r t : Nat) : hitB s' r t = hitB s r t := by
  unfold hitB hitV fpF qF jnJ gB
  rw [hf.at (a := 55) (by omega) (by omega) (by omega), hf.at (a := 58) (by omega) (by omega) (by omega), hf.at (a := 59) (by omega) (by omega) (by omega), hf.at (a := 63) (by omega) (by omega) (by omega), hf.at (a := 64) (by omega) (by omega) (by omega)]
def thB (fr ft : Nat → Nat) (F r t : Nat) : Bool := anB (fun f => decide (fr f = r) && decide (ft f = t)) F
def scO (hit : Nat → Nat → Bool) (t r : Nat) (st : Nat × (Nat → Nat) × (Nat → Nat)) : Nat × (Nat → Nat) × (Nat → Nat) := if (hit r t = true ∧ thB st.2.1 st.2.2 st.1 r t = false) ∧ st.1 < 40 then (st.1 + 1, upN st.2.1 st.1 r, upN st.2.2 st.1 t) else st
def C_fd (s0 s : aS) (F0 F : Nat) (fr ft : Nat → Nat) (w : Int32) : Prop := s 15 5 = nI F ∧ F ≤ 40 ∧ F0 ≤ F ∧ (∀ f, f < F → s 16 f = nI (fr f) ∧ s 17 f = nI (ft f) ∧ fr f < 8 ∧ ft f < 8) ∧ (∀ f, f < F0 → s 18 f = s0 18 f ∧ s 19 f = s0 19 f) ∧ (∀ f, F0 ≤ f → f < F → s 18 f = s0 56 (ft f) ∧ s 19 f = w) ∧ ∀ a k, ¬ ((16 ≤ a ∧ a ≤ 19) ∨ (a = 15 ∧ k = 5)) → s a k = s0 a k
def M_fd (s0 s : aS) (F0 F : Nat) (fr ft : Nat → Nat) (w : Int32) : Prop := s 48 21 = nI F ∧ F ≤ 40 ∧ F0 ≤ F ∧ (∀ f, f < F → s 65 f = nI (fr f) ∧ s 66 f = nI (ft f) ∧ fr f < 8 ∧ ft f < 8) ∧ (∀ f, f < F0 → s 67 f = s0 67 f ∧ s 68 f = s0 68 f) ∧ (∀ f, F0 ≤ f → f < F → s 67 f = w ∧ s 68 f = 0) ∧ ∀ a k, ¬ ((65 ≤ a ∧ a ≤ 68) ∨ (a = 48 ∧ k = 21)) → s a k = s0 a k
theorem C_fd.f {s0 s : aS} (h : C_fd s0 s F0 F fr ft w) : FdF s0 s := fun a k q => h.2.2.2.2.2.2 a k (by unfold fdC at q; omega)
theorem M_fd.f {s0 s : aS} (h : M_fd s0 s F0 F fr ft w) : FdF s0 s := fun a k q => h.2.2.2.2.2.2 a k (by unfold fdC at q; omega)
set_option maxHeartbeats 4000000 in
set_option maxRecDepth 100000 in
theorem c_isThere {r t : Nat} (hS : Sh mu ro) (hr : r < 8) (ht : t < 8) (hF : sg 15 5 = nI F) (hF2 : F ≤ 40) (hf : ∀ f, f < F → sg 16 f = nI (fr f) ∧ sg 17 f = nI (ft f) ∧ fr f < 8 ∧ ft f < 8) (hk : K (some (.int (if thB fr ft F r t = true then 1 else 0))) sg) : aCall d 4 [.ref 15, .int (nI r), .int (nI t)] n mu ro sg K := by
  refine aCall_start (mL := 4) (cc := cX1_isThere) (o := 1) (ret := (some .boolean)) 1 (by decide) (by decide +kernel) rfl rfl rfl rfl (Nat.le_of_ble_eq_true rfl) (fun G hC hG => ?_)
  simp only [exL, List.cons_append, List.nil_append, rp_0, rp_1, rp_2, rp_3, rp_4, rp_5, rp_6, rp_7, rp_8, rp_9, rp_10, rp_11, List.append_nil]
  have lo : ∀ (m i : Nat), i + m = F → thB fr ft i r t = false → AW G 4 n 0 0 mu ro sg 2 [.ref 15, .int (nI r), .int (nI t), .int (nI i)] [] := by
    intro m
    induction m with
    | zero =>
      intro i hi hn
      have hc : (nI F ≤ nI i) = True := eq_true (nI_le (by omega) (by omega))
      have : i = F := by omega
      subst this
      rw [hn, if_neg (by decide)] at hk
      refine hG (fun q => q == 2) 80 _ _ _ _ (Nat.le_of_ble_eq_true rfl) ?_
      simp only [D_X1_isThere, ↓reduceIte, vcS, vcC, vcI, gtF, ptF, inS, inV, fv0, fv1, fv2, fv3, fw0, fw1, lg_0, lg_1, lg_2, lg_3, lg_4, lg_5, lg_6, lg_7, lg_8, lg_9, lg_10, lg_11, lg_12, lg_13, lg_14, lsq_0, lsl_0, lsq_1, lsl_1, lsq_2, lsl_2, lsq_3, lsl_3, lsq_4, lsl_4, lsq_5, lsl_5, lsq_6, lsl_6, lsq_7, lsl_7, lsq_8, lsl_8, lsq_9, lsl_9, lsq_10, lsl_10, lsq_11, lsl_11, lsq_12, lsl_12, lsq_13, lsl_13, lsq_14, lsl_14, tk_0, tk_1, tk_2, tk_3, tk_4, tk_5, tk_6, tk_7, tk_8, cs_n, cs_i, cs_l, cs_r, cs_u, nl, rt_s, rt_n, CST1, Nat.reduceAdd, Nat.reduceLeDiff, va_rf, rtOk, Bool.false_eq_true, Bool.true_eq_false, if_false, if_true, ite_true, ite_false, true_and, and_true, eq_self, ne_eq, not_false_eq_true, not_true_eq_false, false_implies, true_implies, and_self, reduceCtorEq, Nat.reduceBEq, Bool.or_false, Bool.false_or, Bool.or_true, Bool.true_or, if1_0, if1_1, if1_01, one_01, zer_01, lg_cmp_ge, lg_cmp_le, lg_cmp_gt, lg_cmp_lt, lg_cmp_eq, Classical.not_not, SHm hS, SHr hS, hF, ↓im_T hc, ↓im_TN hc, hc]
      exact hk
    | succ m ih =>
      intro i hi hn
      have hc : (nI F ≤ nI i) = False := eq_false (nI_ge (by omega) (by omega))
      have ei : (nI i).toNatClampNeg = i := nI_clamp (by omega)
      have vi : vp_in (nI i) 40 := vp_in_nI (by omega) (by decide)
      obtain ⟨f1, f2, f3, f4⟩ := hf i (by omega)
      have q1 : (nI (fr i) = nI r) = (fr i = r) := propext (nI_eq (by omega) (by omega))
      have q2 : (nI (ft i) = nI t) = (ft i = t) := propext (nI_eq (by omega) (by omega))
      have no : ¬ (fr i = r ∧ ft i = t) → AW G 4 n 0 0 mu ro sg 2 [.ref 15, .int (nI r), .int (nI t), .int (nI (i + 1))] [] := by
        intro z
        refine ih (i + 1) (by omega) ?_
        unfold thB at *
        rw [anB, hn, Bool.false_or, ← Bool.not_eq_true, Bool.and_eq_true, decide_eq_true_iff, decide_eq_true_iff]
        exact z
      refine hG (fun q => q == 2) 80 _ _ _ _ (Nat.le_of_ble_eq_true rfl) ?_
      simp only [D_X1_isThere, ↓reduceIte, vcS, vcC, vcI, gtF, ptF, inS, inV, fv0, fv1, fv2, fv3, fw0, fw1, lg_0, lg_1, lg_2, lg_3, lg_4, lg_5, lg_6, lg_7, lg_8, lg_9, lg_10, lg_11, lg_12, lg_13, lg_14, lsq_0, lsl_0, lsq_1, lsl_1, lsq_2, lsl_2, lsq_3, lsl_3, lsq_4, lsl_4, lsq_5, lsl_5, lsq_6, lsl_6, lsq_7, lsl_7, lsq_8, lsl_8, lsq_9, lsl_9, lsq_10, lsl_10, lsq_11, lsl_11, lsq_12, lsl_12, lsq_13, lsl_13, lsq_14, lsl_14, tk_0, tk_1, tk_2, tk_3, tk_4, tk_5, tk_6, tk_7, tk_8, cs_n, cs_i, cs_l, cs_r, cs_u, nl, rt_s, rt_n, CST1, Nat.reduceAdd, Nat.reduceLeDiff, va_rf, rtOk, Bool.false_eq_true, Bool.true_eq_false, if_false, if_true, ite_true, ite_false, true_and, and_true, eq_self, ne_eq, not_false_eq_true, not_true_eq_false, false_implies, true_implies, and_self, reduceCtorEq, Nat.reduceBEq, Bool.or_false, Bool.false_or, Bool.or_true, Bool.true_or, if1_0, if1_1, if1_01, one_01, zer_01, lg_cmp_ge, lg_cmp_le, lg_cmp_gt, lg_cmp_lt, lg_cmp_eq, Classical.not_not, SHm hS, SHr hS, hF, ↓im_F hc, ↓im_FN hc, hc, ei, vi, f1, f2, q1, q2, nI_1]
      refine ⟨fun g => no (fun z => g z.1), fun g => ⟨fun g2 => no (fun z => g2 z.2), fun g2 => ?_⟩⟩
      have th : thB fr ft F r t = true := by
        unfold thB
        exact (anB_t F).mpr ⟨i, by omega, by rw [decide_eq_true g, decide_eq_true g2]; rfl⟩
      rw [if_pos th] at hk
      exact hk
  refine hG (fun q => q == 2) 80 _ _ _ _ (Nat.le_of_ble_eq_true rfl) ?_
  simp only [D_X1_isThere, ↓reduceIte, vcS, vcC, vcI, gtF, ptF, inS, inV, fv0, fv1, fv2, fv3, fw0, fw1, lg_0, lg_1, lg_2, lg_3, lg_4, lg_5, lg_6, lg_7, lg_8, lg_9, lg_10, lg_11, lg_12, lg_13, lg_14, lsq_0, lsl_0, lsq_1, lsl_1, lsq_2, lsl_2, lsq_3, lsl_3, lsq_4, lsl_4, lsq_5, lsl_5, lsq_6, lsl_6, lsq_7, lsl_7, lsq_8, lsl_8, lsq_9, lsl_9, lsq_10, lsl_10, lsq_11, lsl_11, lsq_12, lsl_12, lsq_13, lsl_13, lsq_14, lsl_14, tk_0, tk_1, tk_2, tk_3, tk_4, tk_5, tk_6, tk_7, tk_8, cs_n, cs_i, cs_l, cs_r, cs_u, nl, rt_s, rt_n, CST1, Nat.reduceAdd, Nat.reduceLeDiff, va_rf, rtOk, Bool.false_eq_true, Bool.true_eq_false, if_false, if_true, ite_true, ite_false, true_and, and_true, eq_self, ne_eq, not_false_eq_true, not_true_eq_false, false_implies, true_implies, and_self, reduceCtorEq, Nat.reduceBEq, Bool.or_false, Bool.false_or, Bool.or_true, Bool.true_or, if1_0, if1_1, if1_01, one_01, zer_01, lg_cmp_ge, lg_cmp_le, lg_cmp_gt, lg_cmp_lt, lg_cmp_eq, Classical.not_not]
  exact lo F 0 (by omega) rfl
set_option maxHeartbeats 4000000 in
set_option maxRecDepth 100000 in
theorem m_isFound {r t : Nat} (hS : Sh mu ro) (hr : r < 8) (ht : t < 8) (hF : sg 48 21 = nI F) (hF2 : F ≤ 40) (hf : ∀ f, f < F → sg 65 f = nI (fr f) ∧ sg 66 f = nI (ft f) ∧ fr f < 8 ∧ ft f < 8) (hk : K (some (.int (if thB fr ft F r t = true then 1 else 0))) sg) : aCall d 191 [.ref 48, .int (nI r), .int (nI t)] n mu ro sg K := by
  refine aCall_start (mL := 5) (cc := cX12_isFound) (o := 12) (ret := (some .boolean)) 2 (by decide) (by decide +kernel) rfl rfl rfl rfl (Nat.le_of_ble_eq_true rfl) (fun G hC hG => ?_)
  simp only [exL, List.cons_append, List.nil_append, rp_0, rp_1, rp_2, rp_3, rp_4, rp_5, rp_6, rp_7, rp_8, rp_9, rp_10, rp_11, List.append_nil]
  have lo : ∀ (m i : Nat) (c : Bool), i + m = F → thB fr ft i r t = c → AW G 5 n 0 0 mu ro sg 5 [.ref 48, .int (nI r), .int (nI t), .int (if c = true then 1 else 0), .int (nI i)] [] := by
    intro m
    induction m with
    | zero =>
      intro i c hi hn
      have hc : (nI F ≤ nI i) = True := eq_true (nI_le (by omega) (by omega))
      have : i = F := by omega
      subst this
      rw [hn] at hk
      refine hG (fun q => q == 5) 80 _ _ _ _ (Nat.le_of_ble_eq_true rfl) ?_
      simp only [D_X12_isFound, ↓reduceIte, vcS, vcC, vcI, gtF, ptF, inS, inV, fv0, fv1, fv2, fv3, fw0, fw1, lg_0, lg_1, lg_2, lg_3, lg_4, lg_5, lg_6, lg_7, lg_8, lg_9, lg_10, lg_11, lg_12, lg_13, lg_14, lsq_0, lsl_0, lsq_1, lsl_1, lsq_2, lsl_2, lsq_3, lsl_3, lsq_4, lsl_4, lsq_5, lsl_5, lsq_6, lsl_6, lsq_7, lsl_7, lsq_8, lsl_8, lsq_9, lsl_9, lsq_10, lsl_10, lsq_11, lsl_11, lsq_12, lsl_12, lsq_13, lsl_13, lsq_14, lsl_14, tk_0, tk_1, tk_2, tk_3, tk_4, tk_5, tk_6, tk_7, tk_8, cs_n, cs_i, cs_l, cs_r, cs_u, nl, rt_s, rt_n, CST1, Nat.reduceAdd, Nat.reduceLeDiff, va_rf, rtOk, Bool.false_eq_true, Bool.true_eq_false, if_false, if_true, ite_true, ite_false, true_and, and_true, eq_self, ne_eq, not_false_eq_true, not_true_eq_false, false_implies, true_implies, and_self, reduceCtorEq, Nat.reduceBEq, Bool.or_false, Bool.false_or, Bool.or_true, Bool.true_or, if1_0, if1_1, if1_01, one_01, zer_01, lg_cmp_ge, lg_cmp_le, lg_cmp_gt, lg_cmp_lt, lg_cmp_eq, Classical.not_not, SHm hS, SHr hS, hF, ↓im_T hc, ↓im_TN hc, hc]
      exact hk
    | succ m ih =>
      intro i c hi hn
      have hc : (nI F ≤ nI i) = False := eq_false (nI_ge (by omega) (by omega))
      have ei : (nI i).toNatClampNeg = i := nI_clamp (by omega)
      have vi : vp_in (nI i) 40 := vp_in_nI (by omega) (by decide)
      obtain ⟨f1, f2, f3, f4⟩ := hf i (by omega)
      have q1 : (nI (fr i) = nI r) = (fr i = r) := propext (nI_eq (by omega) (by omega))
      have q2 : (nI (ft i) = nI t) = (ft i = t) := propext (nI_eq (by omega) (by omega))
      have st : thB fr ft (i + 1) r t = (c || (decide (fr i = r) && decide (ft i = t))) := by
        unfold thB at *
        rw [anB, hn]
      cases c with
      | true =>
        have n1 := ih (i + 1) true (by omega) (by rw [st, Bool.true_or])
        have z9 : (if true = true then (1 : Int32) else 0) = 1 := rfl
        rw [z9] at n1 ⊢
        refine hG (fun q => q == 5) 80 _ _ _ _ (Nat.le_of_ble_eq_true rfl) ?_
        simp only [D_X12_isFound, ↓reduceIte, vcS, vcC, vcI, gtF, ptF, inS, inV, fv0, fv1, fv2, fv3, fw0, fw1, lg_0, lg_1, lg_2, lg_3, lg_4, lg_5, lg_6, lg_7, lg_8, lg_9, lg_10, lg_11, lg_12, lg_13, lg_14, lsq_0, lsl_0, lsq_1, lsl_1, lsq_2, lsl_2, lsq_3, lsl_3, lsq_4, lsl_4, lsq_5, lsl_5, lsq_6, lsl_6, lsq_7, lsl_7, lsq_8, lsl_8, lsq_9, lsl_9, lsq_10, lsl_10, lsq_11, lsl_11, lsq_12, lsl_12, lsq_13, lsl_13, lsq_14, lsl_14, tk_0, tk_1, tk_2, tk_3, tk_4, tk_5, tk_6, tk_7, tk_8, cs_n, cs_i, cs_l, cs_r, cs_u, nl, rt_s, rt_n, CST1, Nat.reduceAdd, Nat.reduceLeDiff, va_rf, rtOk, Bool.false_eq_true, Bool.true_eq_false, if_false, if_true, ite_true, ite_false, true_and, and_true, eq_self, ne_eq, not_false_eq_true, not_true_eq_false, false_implies, true_implies, and_self, reduceCtorEq, Nat.reduceBEq, Bool.or_false, Bool.false_or, Bool.or_true, Bool.true_or, if1_0, if1_1, if1_01, one_01, zer_01, lg_cmp_ge, lg_cmp_le, lg_cmp_gt, lg_cmp_lt, lg_cmp_eq, Classical.not_not, SHm hS, SHr hS, hF, ↓im_F hc, ↓im_FN hc, hc, z10, nI_1]
        exact n1
      | false =>
        have z9 : (if false = true then (1 : Int32) else 0) = 0 := rfl
        have no : ¬ (fr i = r ∧ ft i = t) → AW G 5 n 0 0 mu ro sg 5 [.ref 48, .int (nI r), .int (nI t), .int 0, .int (nI (i + 1))] [] := by
          intro z
          have := ih (i + 1) false (by omega) (by rw [st, Bool.false_or, ← Bool.not_eq_true, Bool.and_eq_true, decide_eq_true_iff, decide_eq_true_iff]; exact z)
          exact this
        have yes : (fr i = r ∧ ft i = t) → AW G 5 n 0 0 mu ro sg 5 [.ref 48, .int (nI r), .int (nI t), .int 1, .int (nI (i + 1))] [] := by
          intro z
          have := ih (i + 1) true (by omega) (by rw [st, decide_eq_true z.1, decide_eq_true z.2]; rfl)
          exact this
        rw [z9]
        refine hG (fun q => q == 5) 80 _ _ _ _ (Nat.le_of_ble_eq_true rfl) ?_
        simp only [D_X12_isFound, ↓reduceIte, vcS, vcC, vcI, gtF, ptF, inS, inV, fv0, fv1, fv2, fv3, fw0, fw1, lg_0, lg_1, lg_2, lg_3, lg_4, lg_5, lg_6, lg_7, lg_8, lg_9, lg_10, lg_11, lg_12, lg_13, lg_14, lsq_0, lsl_0, lsq_1, lsl_1, lsq_2, lsl_2, lsq_3, lsl_3, lsq_4, lsl_4, lsq_5, lsl_5, lsq_6, lsl_6, lsq_7, lsl_7, lsq_8, lsl_8, lsq_9, lsl_9, lsq_10, lsl_10, lsq_11, lsl_11, lsq_12, lsl_12, lsq_13, lsl_13, lsq_14, lsl_14, tk_0, tk_1, tk_2, tk_3, tk_4, tk_5, tk_6, tk_7, tk_8, cs_n, cs_i, cs_l, cs_r, cs_u, nl, rt_s, rt_n, CST1, Nat.reduceAdd, Nat.reduceLeDiff, va_rf, rtOk, Bool.false_eq_true, Bool.true_eq_false, if_false, if_true, ite_true, ite_false, true_and, and_true, eq_self, ne_eq, not_false_eq_true, not_true_eq_false, false_implies, true_implies, and_self, reduceCtorEq, Nat.reduceBEq, Bool.or_false, Bool.false_or, Bool.or_true, Bool.true_or, if1_0, if1_1, if1_01, one_01, zer_01, lg_cmp_ge, lg_cmp_le, lg_cmp_gt, lg_cmp_lt, lg_cmp_eq, Classical.not_not, SHm hS, SHr hS, hF, ↓im_F hc, ↓im_FN hc, hc, ei, vi, f1, f2, q1, q2, nI_1]
        exact ⟨fun g => no (fun z => g z.1), fun g => ⟨fun g2 => no (fun z => g2 z.2), fun g2 => yes ⟨g, g2⟩⟩⟩
  refine hG (fun q => q == 5) 80 _ _ _ _ (Nat.le_of_ble_eq_true rfl) ?_
  simp only [D_X12_isFound, ↓reduceIte, vcS, vcC, vcI, gtF, ptF, inS, inV, fv0, fv1, fv2, fv3, fw0, fw1, lg_0, lg_1, lg_2, lg_3, lg_4, lg_5, lg_6, lg_7, lg_8, lg_9, lg_10, lg_11, lg_12, lg_13, lg_14, lsq_0, lsl_0, lsq_1, lsl_1, lsq_2, lsl_2, lsq_3, lsl_3, lsq_4, lsl_4, lsq_5, lsl_5, lsq_6, lsl_6, lsq_7, lsl_7, lsq_8, lsl_8, lsq_9, lsl_9, lsq_10, lsl_10, lsq_11, lsl_11, lsq_12, lsl_12, lsq_13, lsl_13, lsq_14, lsl_14, tk_0, tk_1, tk_2, tk_3, tk_4, tk_5, tk_6, tk_7, tk_8, cs_n, cs_i, cs_l, cs_r, cs_u, nl, rt_s, rt_n, CST1, Nat.reduceAdd, Nat.reduceLeDiff, va_rf, rtOk, Bool.false_eq_true, Bool.true_eq_false, if_false, if_true, ite_true, ite_false, true_and, and_true, eq_self, ne_eq, not_false_eq_true, not_true_eq_false, false_implies, true_implies, and_self, reduceCtorEq, Nat.reduceBEq, Bool.or_false, Bool.false_or, Bool.or_true, Bool.true_or, if1_0, if1_1, if1_01, one_01, zer_01, lg_cmp_ge, lg_cmp_le, lg_cmp_gt, lg_cmp_lt, lg_cmp_eq, Classical.not_not]
  exact lo F 0 false (by omega) rfl
set_option maxHeartbeats 4000000 in
set_option maxRecDepth 100000 in
theorem c_keepF {a r t : Nat} (hS : Sh mu ro) (ha : 89 ≤ a) (h1 : mu a = (18, 10)) (hr : r < 8) (ht : t < 8) (h0 : σ a 0 = nI t) (h2 : σ a 2 = sg 56 t) (hC9 : C_fd sg σ F0 F fr ft w) (hk1 : F = 40 → K none σ) (hk2 : F < 40 → ∀ σ', C_fd sg σ' F0 (F + 1) (upN fr F r) (upN ft F t) w → K none σ') : aCall d 5 [.ref 15, .int (nI r), .ref a, .int w] n mu ro σ K := by
  obtain ⟨c1, c2, c3, c4, c5, c6, c7⟩ := id hC9
  have tF : (nI F).toInt = F := nI_toInt (by omega)
  refine aCall_start (mL := 4) (cc := cX1_keep) (o := 1) (ret := none) 0 (by decide) (by decide +kernel) rfl rfl rfl rfl (Nat.le_of_ble_eq_true rfl) (fun G hC hG => ?_)
  simp only [exL, List.cons_append, List.nil_append, rp_0, rp_1, rp_2, rp_3, rp_4, rp_5, rp_6, rp_7, rp_8, rp_9, rp_10, rp_11, List.append_nil]
  refine hG (fun _ => false) 80 _ _ _ _ (Nat.le_of_ble_eq_true rfl) ?_
  by_cases h40 : F = 40
  · have hc : (nI F < 40) = False := eq_false (by ((try simp only [i_le, i_lt, i_eq, l_le, l_lt, l_eq, i_ne, l_ne, toL, l_add, l_sub1, LIT1, LIT2, Int.reduceNeg, ge_iff_le, gt_iff_lt] at *); omega))
    simp only [D_X1_keep, ↓reduceIte, vcS, vcC, vcI, gtF, ptF, inS, inV, fv0, fv1, fv2, fv3, fw0, fw1, lg_0, lg_1, lg_2, lg_3, lg_4, lg_5, lg_6, lg_7, lg_8, lg_9, lg_10, lg_11, lg_12, lg_13, lg_14, lsq_0, lsl_0, lsq_1, lsl_1, lsq_2, lsl_2, lsq_3, lsl_3, lsq_4, lsl_4, lsq_5, lsl_5, lsq_6, lsl_6, lsq_7, lsl_7, lsq_8, lsl_8, lsq_9, lsl_9, lsq_10, lsl_10, lsq_11, lsl_11, lsq_12, lsl_12, lsq_13, lsl_13, lsq_14, lsl_14, tk_0, tk_1, tk_2, tk_3, tk_4, tk_5, tk_6, tk_7, tk_8, cs_n, cs_i, cs_l, cs_r, cs_u, nl, rt_s, rt_n, CST1, Nat.reduceAdd, Nat.reduceLeDiff, va_rf, rtOk, Bool.false_eq_true, Bool.true_eq_false, if_false, if_true, ite_true, ite_false, true_and, and_true, eq_self, ne_eq, not_false_eq_true, not_true_eq_false, false_implies, true_implies, and_self, reduceCtorEq, Nat.reduceBEq, Bool.or_false, Bool.false_or, Bool.or_true, Bool.true_or, if1_0, if1_1, if1_01, one_01, zer_01, lg_cmp_ge, lg_cmp_le, lg_cmp_gt, lg_cmp_lt, lg_cmp_eq, Classical.not_not, SHm hS, SHr hS, c1, ↓im_F hc, ↓im_FN hc, hc]
    exact hk1 h40
  · have hc : (nI F < 40) = True := eq_true (by ((try simp only [i_le, i_lt, i_eq, l_le, l_lt, l_eq, i_ne, l_ne, toL, l_add, l_sub1, LIT1, LIT2, Int.reduceNeg, ge_iff_le, gt_iff_lt] at *); omega))
    have eF : (nI F).toNatClampNeg = F := nI_clamp (by omega)
    have vF : vp_in (nI F) 40 := vp_in_nI (by omega) (by decide)
    have r1 : s2 σ 16 F (nI r) 15 5 = nI F := by rw [s2_n (by omega)]; exact c1
    have r2 : s2 σ 16 F (nI r) a 0 = nI t := by rw [s2_n (by omega)]; exact h0
    have r3 : s2 (s2 σ 16 F (nI r)) 17 F (nI t) 15 5 = nI F := by rw [s2_n (by omega)]; exact r1
    have r4 : s2 (s2 σ 16 F (nI r)) 17 F (nI t) a 2 = sg 56 t := by rw [s2_n (by omega), s2_n (by omega)]; exact h2
    have r5 : s2 (s2 (s2 σ 16 F (nI r)) 17 F (nI t)) 18 F (sg 56 t) 15 5 = nI F := by rw [s2_n (by omega)]; exact r3
    have r6 : s2 (s2 (s2 (s2 σ 16 F (nI r)) 17 F (nI t)) 18 F (sg 56 t)) 19 F w 15 5 = nI F := by rw [s2_n (by omega)]; exact r5
    simp only [D_X1_keep, ↓reduceIte, vcS, vcC, vcI, gtF, ptF, inS, inV, fv0, fv1, fv2, fv3, fw0, fw1, lg_0, lg_1, lg_2, lg_3, lg_4, lg_5, lg_6, lg_7, lg_8, lg_9, lg_10, lg_11, lg_12, lg_13, lg_14, lsq_0, lsl_0, lsq_1, lsl_1, lsq_2, lsl_2, lsq_3, lsl_3, lsq_4, lsl_4, lsq_5, lsl_5, lsq_6, lsl_6, lsq_7, lsl_7, lsq_8, lsl_8, lsq_9, lsl_9, lsq_10, lsl_10, lsq_11, lsl_11, lsq_12, lsl_12, lsq_13, lsl_13, lsq_14, lsl_14, tk_0, tk_1, tk_2, tk_3, tk_4, tk_5, tk_6, tk_7, tk_8, cs_n, cs_i, cs_l, cs_r, cs_u, nl, rt_s, rt_n, CST1, Nat.reduceAdd, Nat.reduceLeDiff, va_rf, rtOk, Bool.false_eq_true, Bool.true_eq_false, if_false, if_true, ite_true, ite_false, true_and, and_true, eq_self, ne_eq, not_false_eq_true, not_true_eq_false, false_implies, true_implies, and_self, reduceCtorEq, Nat.reduceBEq, Bool.or_false, Bool.false_or, Bool.or_true, Bool.true_or, if1_0, if1_1, if1_01, one_01, zer_01, lg_cmp_ge, lg_cmp_le, lg_cmp_gt, lg_cmp_lt, lg_cmp_eq, Classical.not_not, SHm hS, SHr hS, h1, c1, ↓im_T hc, ↓im_TN hc, hc, eF, vF, r1, r2, r3, r4, r5, r6, nI_1]
    refine hk2 (by omega) _ ⟨by ((try simp (disch := omega) only [s2_y, s2_n, rg_y, rg_n, fl_y, fl_n]); (try with_reducible rfl); (try assumption)), by omega, by omega, fun f hf => ?_, fun f hf => ?_, fun f hf hf2 => ?_, fun b k q => ?_⟩
    · by_cases q : f = F
      · subst q
        rw [upN_y, upN_y]
        exact ⟨by ((try simp (disch := omega) only [s2_y, s2_n, rg_y, rg_n, fl_y, fl_n]); (try with_reducible rfl); (try assumption)), by ((try simp (disch := omega) only [s2_y, s2_n, rg_y, rg_n, fl_y, fl_n]); (try with_reducible rfl); (try assumption)), hr, ht⟩
      · rw [upN_n q, upN_n q]
        obtain ⟨u1, u2, u3, u4⟩ := c4 f (by omega)
        exact ⟨by ((try simp (disch := omega) only [s2_y, s2_n, rg_y, rg_n, fl_y, fl_n]); (try with_reducible rfl); (try assumption)), by ((try simp (disch := omega) only [s2_y, s2_n, rg_y, rg_n, fl_y, fl_n]); (try with_reducible rfl); (try assumption)), u3, u4⟩
    · obtain ⟨u1, u2⟩ := c5 f hf
      exact ⟨by ((try simp (disch := omega) only [s2_y, s2_n, rg_y, rg_n, fl_y, fl_n]); (try with_reducible rfl); (try assumption)), by ((try simp (disch := omega) only [s2_y, s2_n, rg_y, rg_n, fl_y, fl_n]); (try with_reducible rfl); (try assumption))⟩
    · by_cases q : f = F
      · subst q
        rw [upN_y]
        exact ⟨by ((try simp (disch := omega) only [s2_y, s2_n, rg_y, rg_n, fl_y, fl_n]); (try with_reducible rfl); (try assumption)), by ((try simp (disch := omega) only [s2_y, s2_n, rg_y, rg_n, fl_y, fl_n]); (try with_reducible rfl); (try assumption))⟩
      · rw [upN_n q]
        obtain ⟨u1, u2⟩ := c6 f hf (by omega)
        exact ⟨by ((try simp (disch := omega) only [s2_y, s2_n, rg_y, rg_n, fl_y, fl_n]); (try with_reducible rfl); (try assumption)), by ((try simp (disch := omega) only [s2_y, s2_n, rg_y, rg_n, fl_y, fl_n]); (try with_reducible rfl); (try assumption))⟩
    · rw [s2_n (by omega), s2_n (by omega), s2_n (by omega), s2_n (by omega), s2_n (by omega)]
      exact c7 b k q
theorem fv_n9 {p : Nat → Bool} {J : Nat} (hJ : J ≤ 79) : (fvF p J J 0 = -9) = ¬ (fsG p J 0 < J) := by
  unfold fvF
  by_cases q : fsG p J 0 < J
  · rw [if_pos q, nI_n9 (by omega)]
    exact (eq_false (fun z => z q)).symm
  · rw [if_neg q]
    exact (eq_true rfl).trans (eq_true q).symm
set_option maxHeartbeats 4000000 in
set_option maxRecDepth 100000 in
theorem c_scanOne {r t : Nat} (hS : Sh mu ro) (hd : 3 ≤ d) (hT : S_tk mu ro n T tb) (hR : S_rw mu ro n Q rb) (hI : I_tk sg T tb) (hJ : I_rw sg Q rb) (hr : r < Q) (ht : t < T) (hC9 : C_fd sg σ F0 F fr ft w) (hk : ∀ σ', C_fd sg σ' F0 (scO (hitB sg) t r (F, fr, ft)).1 (scO (hitB sg) t r (F, fr, ft)).2.1 (scO (hitB sg) t r (F, fr, ft)).2.2 w → K none σ') : aCall d 107 [.ref 0, .int (nI r), .int (nI t), .int w] n mu ro σ K := by
  have ff := hC9.f
  obtain ⟨⟨i1, i2⟩, i3, i4, i5⟩ := hI.fd hT ff
  obtain ⟨⟨j1, j2⟩, j3, j4⟩ := hJ.fd hR ff
  obtain ⟨c1, c2, c3, c4, c5, c6, c7⟩ := id hC9
  obtain ⟨kd, e, k1, k2, k3, _, _, _⟩ := t1_k (i4 t ht)
  obtain ⟨g1, g2, g3, g4⟩ := t1_g (i4 t ht)
  obtain ⟨s1, s2', s3, s4, s5, s6, s7, s8⟩ := hT t ht
  obtain ⟨q1, q2, q3, q4, q5, q6⟩ := hR r hr
  obtain ⟨z, z1, z2, z3, z4, z5⟩ := j4 r hr
  have gg := (i4 t ht).2.2.2.2.2.2.2.2
  have ez : (σ 63 r).toNatClampNeg = z := by rw [z4]; exact nI_clamp (by omega)
  rw [show hitB sg = hitB σ from funext (fun r => funext (fun t => (hit_cg ff r t).symm))] at hk
  have no : ¬ ((hitB σ r t = true ∧ thB fr ft F r t = false) ∧ F < 40) → K none σ := by
    intro q
    refine hk σ ?_
    unfold scO
    rw [if_neg q]
    exact hC9
  refine aCall_start (mL := 6) (cc := cX11_scanOne) (o := 11) (ret := none) 2 (by decide) (by decide +kernel) rfl rfl rfl rfl (Nat.le_of_ble_eq_true rfl) (fun G hC hG => ?_)
  simp only [exL, List.cons_append, List.nil_append, rp_0, rp_1, rp_2, rp_3, rp_4, rp_5, rp_6, rp_7, rp_8, rp_9, rp_10, rp_11, List.append_nil]
  refine hG (fun _ => false) 80 _ _ _ _ (Nat.le_of_ble_eq_true rfl) ?_
  simp only [D_X11_scanOne, N_X11_scanOne, ↓reduceIte, vcS, vcC, vcI, gtF, ptF, inS, inV, fv0, fv1, fv2, fv3, fw0, fw1, lg_0, lg_1, lg_2, lg_3, lg_4, lg_5, lg_6, lg_7, lg_8, lg_9, lg_10, lg_11, lg_12, lg_13, lg_14, lsq_0, lsl_0, lsq_1, lsl_1, lsq_2, lsl_2, lsq_3, lsl_3, lsq_4, lsl_4, lsq_5, lsl_5, lsq_6, lsl_6, lsq_7, lsl_7, lsq_8, lsl_8, lsq_9, lsl_9, lsq_10, lsl_10, lsq_11, lsl_11, lsq_12, lsl_12, lsq_13, lsl_13, lsq_14, lsl_14, tk_0, tk_1, tk_2, tk_3, tk_4, tk_5, tk_6, tk_7, tk_8, cs_n, cs_i, cs_l, cs_r, cs_u, nl, rt_s, rt_n, CST1, Nat.reduceAdd, Nat.reduceLeDiff, va_rf, rtOk, Bool.false_eq_true, Bool.true_eq_false, if_false, if_true, ite_true, ite_false, true_and, and_true, eq_self, ne_eq, not_false_eq_true, not_true_eq_false, false_implies, true_implies, and_self, reduceCtorEq, Nat.reduceBEq, Bool.or_false, Bool.false_or, Bool.or_true, Bool.true_or, if1_0, if1_1, if1_01, one_01, zer_01, lg_cmp_ge, lg_cmp_le, lg_cmp_gt, lg_cmp_lt, lg_cmp_eq, Classical.not_not, SHm hS, SHr hS]
  refine ⟨by omega, c_rowN hS (by omega) hR j1 j3 hr ?_⟩
  simp only [D_X11_scanOne, N_X11_scanOne, ↓reduceIte, vcS, vcC, vcI, gtF, ptF, inS, inV, fv0, fv1, fv2, fv3, fw0, fw1, lg_0, lg_1, lg_2, lg_3, lg_4, lg_5, lg_6, lg_7, lg_8, lg_9, lg_10, lg_11, lg_12, lg_13, lg_14, lsq_0, lsl_0, lsq_1, lsl_1, lsq_2, lsl_2, lsq_3, lsl_3, lsq_4, lsl_4, lsq_5, lsl_5, lsq_6, lsl_6, lsq_7, lsl_7, lsq_8, lsl_8, lsq_9, lsl_9, lsq_10, lsl_10, lsq_11, lsl_11, lsq_12, lsl_12, lsq_13, lsl_13, lsq_14, lsl_14, tk_0, tk_1, tk_2, tk_3, tk_4, tk_5, tk_6, tk_7, tk_8, cs_n, cs_i, cs_l, cs_r, cs_u, nl, rt_s, rt_n, CST1, Nat.reduceAdd, Nat.reduceLeDiff, va_rf, rtOk, Bool.false_eq_true, Bool.true_eq_false, if_false, if_true, ite_true, ite_false, true_and, and_true, eq_self, ne_eq, not_false_eq_true, not_true_eq_false, false_implies, true_implies, and_self, reduceCtorEq, Nat.reduceBEq, Bool.or_false, Bool.false_or, Bool.or_true, Bool.true_or, if1_0, if1_1, if1_01, one_01, zer_01, lg_cmp_ge, lg_cmp_le, lg_cmp_gt, lg_cmp_lt, lg_cmp_eq, Classical.not_not, SHm hS, SHr hS]
  refine ⟨by omega, c_talkN hS (by omega) hT i1 i3 ht ?_⟩
  simp only [D_X11_scanOne, N_X11_scanOne, ↓reduceIte, vcS, vcC, vcI, gtF, ptF, inS, inV, fv0, fv1, fv2, fv3, fw0, fw1, lg_0, lg_1, lg_2, lg_3, lg_4, lg_5, lg_6, lg_7, lg_8, lg_9, lg_10, lg_11, lg_12, lg_13, lg_14, lsq_0, lsl_0, lsq_1, lsl_1, lsq_2, lsl_2, lsq_3, lsl_3, lsq_4, lsl_4, lsq_5, lsl_5, lsq_6, lsl_6, lsq_7, lsl_7, lsq_8, lsl_8, lsq_9, lsl_9, lsq_10, lsl_10, lsq_11, lsl_11, lsq_12, lsl_12, lsq_13, lsl_13, lsq_14, lsl_14, tk_0, tk_1, tk_2, tk_3, tk_4, tk_5, tk_6, tk_7, tk_8, cs_n, cs_i, cs_l, cs_r, cs_u, nl, rt_s, rt_n, CST1, Nat.reduceAdd, Nat.reduceLeDiff, va_rf, rtOk, Bool.false_eq_true, Bool.true_eq_false, if_false, if_true, ite_true, ite_false, true_and, and_true, eq_self, ne_eq, not_false_eq_true, not_true_eq_false, false_implies, true_implies, and_self, reduceCtorEq, Nat.reduceBEq, Bool.or_false, Bool.false_or, Bool.or_true, Bool.true_or, if1_0, if1_1, if1_01, one_01, zer_01, lg_cmp_ge, lg_cmp_le, lg_cmp_gt, lg_cmp_lt, lg_cmp_eq, Classical.not_not, SHm hS, SHr hS, s2']
  refine ⟨by omega, c_isSealed s2' k2 k1 ?_⟩
  by_cases kz : kd = 0
  · rw [if_pos kz]
    have k5 : σ 55 t = 0 := by rw [k3, kz]; rfl
    simp only [D_X11_scanOne, N_X11_scanOne, ↓reduceIte, vcS, vcC, vcI, gtF, ptF, inS, inV, fv0, fv1, fv2, fv3, fw0, fw1, lg_0, lg_1, lg_2, lg_3, lg_4, lg_5, lg_6, lg_7, lg_8, lg_9, lg_10, lg_11, lg_12, lg_13, lg_14, lsq_0, lsl_0, lsq_1, lsl_1, lsq_2, lsl_2, lsq_3, lsl_3, lsq_4, lsl_4, lsq_5, lsl_5, lsq_6, lsl_6, lsq_7, lsl_7, lsq_8, lsl_8, lsq_9, lsl_9, lsq_10, lsl_10, lsq_11, lsl_11, lsq_12, lsl_12, lsq_13, lsl_13, lsq_14, lsl_14, tk_0, tk_1, tk_2, tk_3, tk_4, tk_5, tk_6, tk_7, tk_8, cs_n, cs_i, cs_l, cs_r, cs_u, nl, rt_s, rt_n, CST1, Nat.reduceAdd, Nat.reduceLeDiff, va_rf, rtOk, Bool.false_eq_true, Bool.true_eq_false, if_false, if_true, ite_true, ite_false, true_and, and_true, eq_self, ne_eq, not_false_eq_true, not_true_eq_false, false_implies, true_implies, and_self, reduceCtorEq, Nat.reduceBEq, Bool.or_false, Bool.false_or, Bool.or_true, Bool.true_or, if1_0, if1_1, if1_01, one_01, zer_01, lg_cmp_ge, lg_cmp_le, lg_cmp_gt, lg_cmp_lt, lg_cmp_eq, Classical.not_not, SHm hS, SHr hS]
    refine ⟨by omega, c_isThere hS (by omega) (by omega) c1 c2 c4 ?_⟩
    simp only [D_X11_scanOne, N_X11_scanOne, ↓reduceIte, vcS, vcC, vcI, gtF, ptF, inS, inV, fv0, fv1, fv2, fv3, fw0, fw1, lg_0, lg_1, lg_2, lg_3, lg_4, lg_5, lg_6, lg_7, lg_8, lg_9, lg_10, lg_11, lg_12, lg_13, lg_14, lsq_0, lsl_0, lsq_1, lsl_1, lsq_2, lsl_2, lsq_3, lsl_3, lsq_4, lsl_4, lsq_5, lsl_5, lsq_6, lsl_6, lsq_7, lsl_7, lsq_8, lsl_8, lsq_9, lsl_9, lsq_10, lsl_10, lsq_11, lsl_11, lsq_12, lsl_12, lsq_13, lsl_13, lsq_14, lsl_14, tk_0, tk_1, tk_2, tk_3, tk_4, tk_5, tk_6, tk_7, tk_8, cs_n, cs_i, cs_l, cs_r, cs_u, nl, rt_s, rt_n, CST1, Nat.reduceAdd, Nat.reduceLeDiff, va_rf, rtOk, Bool.false_eq_true, Bool.true_eq_false, if_false, if_true, ite_true, ite_false, true_and, and_true, eq_self, ne_eq, not_false_eq_true, not_true_eq_false, false_implies, true_implies, and_self, reduceCtorEq, Nat.reduceBEq, Bool.or_false, Bool.false_or, Bool.or_true, Bool.true_or, if1_0, if1_1, if1_01, one_01, zer_01, lg_cmp_ge, lg_cmp_le, lg_cmp_gt, lg_cmp_lt, lg_cmp_eq, Classical.not_not, SHm hS, SHr hS, q2]
    refine ⟨fun y1 => ?_, fun y1 => no (fun u => by rw [y1] at u; exact absurd u.1.2 (by decide))⟩
    have y1' : thB fr ft F r t = false := by rw [← Bool.not_eq_true]; exact y1
    have keep : hitB σ r t = true → ∀ Z : Option Value → aS → Prop, (∀ σ', K none σ' → Z none σ') → aCall (d - 1) 5 [.ref 15, .int (nI r), .ref (tb t), .int w] n mu ro σ Z := by
      intro hh Z hZ
      refine c_keepF (sg := sg) (F0 := F0) (fr := fr) (ft := ft) hS s7 s2' (by omega) (by omega) (i4 t ht).1 ?_ hC9 (fun g => hZ _ (no (fun u => absurd u.2 (by omega)))) (fun g σ' h9 => hZ _ (hk σ' ?_))
      · rw [← ff.at (a := 56) (by omega) (by omega) (by omega)]
        exact (i4 t ht).2.2.1.1
      · unfold scO
        rw [if_pos ⟨⟨hh, y1'⟩, g⟩]
        exact h9
    have fst : ∀ v, ∀ Z : Option Value → aS → Prop, Z (some (.int (fvF (fpF σ r t v z (jnJ σ t)) (jnJ σ t) (jnJ σ t) 0))) σ → aCall (d - 1) 43 [.ref (rb r), .ref (tb t), .int v] n mu ro σ Z := fun v Z hZ => c_firstIn (r := r) (t := t) (J := jnJ σ t) (by omega) q2 q3 q4 z3 ⟨z1, z2⟩ (fun k hk => (z5 k hk).1) s2' s3 s5 s4 s6 (fun p hp => ⟨(gg p hp).1, (gg p hp).2.2.1⟩) g1 rfl jn_le hZ
    have hv : ∀ v, (fvF (fpF σ r t v z (jnJ σ t)) (jnJ σ t) (jnJ σ t) 0 = -9) = ¬ (hitV σ r t v = true) := by
      intro v
      rw [fv_n9 jn_le]
      unfold hitV
      rw [ez, decide_eq_true_iff]
    have hb : hitB σ r t = (hitV σ r t 0 || hitV σ r t 1) := by
      unfold hitB
      rw [decide_eq_true k5, Bool.true_and]
    refine ⟨by omega, fst 0 _ ?_⟩
    simp only [D_X11_scanOne, N_X11_scanOne, ↓reduceIte, vcS, vcC, vcI, gtF, ptF, inS, inV, fv0, fv1, fv2, fv3, fw0, fw1, lg_0, lg_1, lg_2, lg_3, lg_4, lg_5, lg_6, lg_7, lg_8, lg_9, lg_10, lg_11, lg_12, lg_13, lg_14, lsq_0, lsl_0, lsq_1, lsl_1, lsq_2, lsl_2, lsq_3, lsl_3, lsq_4, lsl_4, lsq_5, lsl_5, lsq_6, lsl_6, lsq_7, lsl_7, lsq_8, lsl_8, lsq_9, lsl_9, lsq_10, lsl_10, lsq_11, lsl_11, lsq_12, lsl_12, lsq_13, lsl_13, lsq_14, lsl_14, tk_0, tk_1, tk_2, tk_3, tk_4, tk_5, tk_6, tk_7, tk_8, cs_n, cs_i, cs_l, cs_r, cs_u, nl, rt_s, rt_n, CST1, Nat.reduceAdd, Nat.reduceLeDiff, va_rf, rtOk, Bool.false_eq_true, Bool.true_eq_false, if_false, if_true, ite_true, ite_false, true_and, and_true, eq_self, ne_eq, not_false_eq_true, not_true_eq_false, false_implies, true_implies, and_self, reduceCtorEq, Nat.reduceBEq, Bool.or_false, Bool.false_or, Bool.or_true, Bool.true_or, if1_0, if1_1, if1_01, one_01, zer_01, lg_cmp_ge, lg_cmp_le, lg_cmp_gt, lg_cmp_lt, lg_cmp_eq, Classical.not_not, SHm hS, SHr hS, hv, q2]
    refine ⟨fun y2 => ⟨by omega, keep (by rw [hb, y2, Bool.true_or]) _ (fun σ' h9 => ?_)⟩, fun y2 => ⟨by omega, fst 1 _ ?_⟩⟩
    · simp only [D_X11_scanOne, N_X11_scanOne, ↓reduceIte, vcS, vcC, vcI, gtF, ptF, inS, inV, fv0, fv1, fv2, fv3, fw0, fw1, lg_0, lg_1, lg_2, lg_3, lg_4, lg_5, lg_6, lg_7, lg_8, lg_9, lg_10, lg_11, lg_12, lg_13, lg_14, lsq_0, lsl_0, lsq_1, lsl_1, lsq_2, lsl_2, lsq_3, lsl_3, lsq_4, lsl_4, lsq_5, lsl_5, lsq_6, lsl_6, lsq_7, lsl_7, lsq_8, lsl_8, lsq_9, lsl_9, lsq_10, lsl_10, lsq_11, lsl_11, lsq_12, lsl_12, lsq_13, lsl_13, lsq_14, lsl_14, tk_0, tk_1, tk_2, tk_3, tk_4, tk_5, tk_6, tk_7, tk_8, cs_n, cs_i, cs_l, cs_r, cs_u, nl, rt_s, rt_n, CST1, Nat.reduceAdd, Nat.reduceLeDiff, va_rf, rtOk, Bool.false_eq_true, Bool.true_eq_false, if_false, if_true, ite_true, ite_false, true_and, and_true, eq_self, ne_eq, not_false_eq_true, not_true_eq_false, false_implies, true_implies, and_self, reduceCtorEq, Nat.reduceBEq, Bool.or_false, Bool.false_or, Bool.or_true, Bool.true_or, if1_0, if1_1, if1_01, one_01, zer_01, lg_cmp_ge, lg_cmp_le, lg_cmp_gt, lg_cmp_lt, lg_cmp_eq, Classical.not_not, SHm hS, SHr hS]
      exact h9
    · simp only [D_X11_scanOne, N_X11_scanOne, ↓reduceIte, vcS, vcC, vcI, gtF, ptF, inS, inV, fv0, fv1, fv2, fv3, fw0, fw1, lg_0, lg_1, lg_2, lg_3, lg_4, lg_5, lg_6, lg_7, lg_8, lg_9, lg_10, lg_11, lg_12, lg_13, lg_14, lsq_0, lsl_0, lsq_1, lsl_1, lsq_2, lsl_2, lsq_3, lsl_3, lsq_4, lsl_4, lsq_5, lsl_5, lsq_6, lsl_6, lsq_7, lsl_7, lsq_8, lsl_8, lsq_9, lsl_9, lsq_10, lsl_10, lsq_11, lsl_11, lsq_12, lsl_12, lsq_13, lsl_13, lsq_14, lsl_14, tk_0, tk_1, tk_2, tk_3, tk_4, tk_5, tk_6, tk_7, tk_8, cs_n, cs_i, cs_l, cs_r, cs_u, nl, rt_s, rt_n, CST1, Nat.reduceAdd, Nat.reduceLeDiff, va_rf, rtOk, Bool.false_eq_true, Bool.true_eq_false, if_false, if_true, ite_true, ite_false, true_and, and_true, eq_self, ne_eq, not_false_eq_true, not_true_eq_false, false_implies, true_implies, and_self, reduceCtorEq, Nat.reduceBEq, Bool.or_false, Bool.false_or, Bool.or_true, Bool.true_or, if1_0, if1_1, if1_01, one_01, zer_01, lg_cmp_ge, lg_cmp_le, lg_cmp_gt, lg_cmp_lt, lg_cmp_eq, Classical.not_not, SHm hS, SHr hS, hv, q2]
      refine ⟨fun y3 => no (fun u => ?_), fun y3 => ⟨by omega, keep (by rw [hb, y3, Bool.or_true]) _ (fun σ' h9 => ?_)⟩⟩
      · have := u.1.1
        rw [hb, Bool.or_eq_true] at this
        exact this.elim y2 y3
      · simp only [D_X11_scanOne, N_X11_scanOne, ↓reduceIte, vcS, vcC, vcI, gtF, ptF, inS, inV, fv0, fv1, fv2, fv3, fw0, fw1, lg_0, lg_1, lg_2, lg_3, lg_4, lg_5, lg_6, lg_7, lg_8, lg_9, lg_10, lg_11, lg_12, lg_13, lg_14, lsq_0, lsl_0, lsq_1, lsl_1, lsq_2, lsl_2, lsq_3, lsl_3, lsq_4, lsl_4, lsq_5, lsl_5, lsq_6, lsl_6, lsq_7, lsl_7, lsq_8, lsl_8, lsq_9, lsl_9, lsq_10, lsl_10, lsq_11, lsl_11, lsq_12, lsl_12, lsq_13, lsl_13, lsq_14, lsl_14, tk_0, tk_1, tk_2, tk_3, tk_4, tk_5, tk_6, tk_7, tk_8, cs_n, cs_i, cs_l, cs_r, cs_u, nl, rt_s, rt_n, CST1, Nat.reduceAdd, Nat.reduceLeDiff, va_rf, rtOk, Bool.false_eq_true, Bool.true_eq_false, if_false, if_true, ite_true, ite_false, true_and, and_true, eq_self, ne_eq, not_false_eq_true, not_true_eq_false, false_implies, true_implies, and_self, reduceCtorEq, Nat.reduceBEq, Bool.or_false, Bool.false_or, Bool.or_true, Bool.true_or, if1_0, if1_1, if1_01, one_01, zer_01, lg_cmp_ge, lg_cmp_le, lg_cmp_gt, lg_cmp_lt, lg_cmp_eq, Classical.not_not, SHm hS, SHr hS]
        exact h9
  · rw [if_neg kz]
    simp only [D_X11_scanOne, N_X11_scanOne, ↓reduceIte, vcS, vcC, vcI, gtF, ptF, inS, inV, fv0, fv1, fv2, fv3, fw0, fw1, lg_0, lg_1, lg_2, lg_3, lg_4, lg_5, lg_6, lg_7, lg_8, lg_9, lg_10, lg_11, lg_12, lg_13, lg_14, lsq_0, lsl_0, lsq_1, lsl_1, lsq_2, lsl_2, lsq_3, lsl_3, lsq_4, lsl_4, lsq_5, lsl_5, lsq_6, lsl_6, lsq_7, lsl_7, lsq_8, lsl_8, lsq_9, lsl_9, lsq_10, lsl_10, lsq_11, lsl_11, lsq_12, lsl_12, lsq_13, lsl_13, lsq_14, lsl_14, tk_0, tk_1, tk_2, tk_3, tk_4, tk_5, tk_6, tk_7, tk_8, cs_n, cs_i, cs_l, cs_r, cs_u, nl, rt_s, rt_n, CST1, Nat.reduceAdd, Nat.reduceLeDiff, va_rf, rtOk, Bool.false_eq_true, Bool.true_eq_false, if_false, if_true, ite_true, ite_false, true_and, and_true, eq_self, ne_eq, not_false_eq_true, not_true_eq_false, false_implies, true_implies, and_self, reduceCtorEq, Nat.reduceBEq, Bool.or_false, Bool.false_or, Bool.or_true, Bool.true_or, if1_0, if1_1, if1_01, one_01, zer_01, lg_cmp_ge, lg_cmp_le, lg_cmp_gt, lg_cmp_lt, lg_cmp_eq, Classical.not_not, SHm hS, SHr hS, z10]
    refine no (fun u => ?_)
    have := u.1.1
    unfold hitB at this
    rw [Bool.and_eq_true, decide_eq_true_iff, k3] at this
    exact nI_ne0 (by omega) (by omega) this.1
end H63
