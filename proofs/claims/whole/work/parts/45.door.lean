/-! part 45: door, shut on both sides -/
section H45
variable {d n N : Nat} {mu : aM} {ro : aR} {sg : aS} {K : Option Value → aS → Prop} {R P : Nat → Nat → Bool} {D : Nat} {dA dB : Nat → Nat} {S : Nat → Bool}
theorem prD_u {a b e : Nat} (he : e < D) : prD (upN dA D a) (upN dB D b) e = prD dA dB e := by
  funext x y
  unfold prD
  rw [upN_n (by omega), upN_n (by omega)]
theorem prD_D {a b x y : Nat} : prD (upN dA D a) (upN dB D b) D x y = ((a = x ∧ b = y) ∨ (a = y ∧ b = x)) := by
  unfold prD
  rw [upN_y, upN_y]
theorem Nt.door {a b : Nat} (h : Nt R P D dA dB S) (ha : a < 10) (hb : b < 10) (hR : R a b = true) (hn : ∀ e, e < D → ¬ prD dA dB e a b) (hD : D < 8) : Nt R P (D + 1) (upN dA D a) (upN dB D b) S := by
  have hab := h.ne ha hR
  obtain ⟨h1, h2, h3, h4, h5, h6, h7, h8⟩ := h
  refine ⟨by omega, h2, h3, h4, h5, fun e he => ?_, fun e f he hf q => ?_, fun e he q => ?_⟩
  · by_cases q : e = D
    · subst q
      rw [upN_y, upN_y]
      exact ⟨ha, hb, hab⟩
    · rw [upN_n q, upN_n q]
      exact h6 e (by omega)
  · by_cases q1 : e = D
    · by_cases q2 : f = D
      · omega
      · exfalso
        rw [q1, prD_D, upN_n q2, upN_n q2] at q
        refine hn f (by omega) ?_
        unfold prD
        omega
    · rw [prD_u (by omega)] at q
      by_cases q2 : f = D
      · exfalso
        rw [q2, upN_y, upN_y] at q
        exact hn e (by omega) q
      · rw [upN_n q2, upN_n q2] at q
        exact h7 e f (by omega) (by omega) q
  · obtain ⟨u1, u2⟩ := h8 e he q
    refine ⟨by omega, ?_⟩
    rw [upN_n (by omega), upN_n (by omega)]
    exact u2
set_option maxHeartbeats 4000000 in
set_option maxRecDepth 100000 in
theorem c_doorOn {a b : Nat} (hS : Sh mu ro) (hd : 1 ≤ d) (hN : Nt R P D dA dB S) (hX : C_nt sg R P D dA dB S) (ha : a < 10) (hb : b < 10)
    (hk2 : ∀ e, e < D → prD dA dB e a b → K (some (.int (nI e))) sg) (hk3 : (∀ e, e < D → ¬ prD dA dB e a b) → D = 8 → K (some (.int (-4))) sg) (hk4 : (∀ e, e < D → ¬ prD dA dB e a b) → D < 8 → ∀ σ, C_nt σ R P (D + 1) (upN dA D a) (upN dB D b) S → FCn sg σ → K (some (.int (nI D))) σ) : aCall d 27 [.ref 1, .int (nI a), .int (nI b)] n mu ro sg K := by
  obtain ⟨x1, x2, x3, x4, x5, x6⟩ := id hX
  have hD8 := hN.1
  have tD : (nI D).toInt = D := nI_toInt (by omega)
  refine aCall_start (mL := 4) (cc := cX4_doorOn) (o := 4) (ret := (some .int)) 1 (by decide) (by decide +kernel) rfl rfl rfl rfl (Nat.le_of_ble_eq_true rfl) (fun G hC hG => ?_)
  simp only [exL, List.cons_append, List.nil_append, rp_0, rp_1, rp_2, rp_3, rp_4, rp_5, rp_6, rp_7, rp_8, rp_9, rp_10, rp_11, List.append_nil]
  refine hG (fun _ => false) 80 _ _ _ _ (Nat.le_of_ble_eq_true rfl) ?_
  simp only [D_X4_doorOn, N_X4_doorOn, ↓reduceIte, vcS, vcC, vcI, gtF, ptF, inS, inV, fv0, fv1, fv2, fv3, fw0, fw1, lg_0, lg_1, lg_2, lg_3, lg_4, lg_5, lg_6, lg_7, lg_8, lg_9, lg_10, lg_11, lg_12, lg_13, lg_14, lsq_0, lsl_0, lsq_1, lsl_1, lsq_2, lsl_2, lsq_3, lsl_3, lsq_4, lsl_4, lsq_5, lsl_5, lsq_6, lsl_6, lsq_7, lsl_7, lsq_8, lsl_8, lsq_9, lsl_9, lsq_10, lsl_10, lsq_11, lsl_11, lsq_12, lsl_12, lsq_13, lsl_13, lsq_14, lsl_14, tk_0, tk_1, tk_2, tk_3, tk_4, tk_5, tk_6, tk_7, tk_8, cs_n, cs_i, cs_l, cs_r, cs_u, nl, rt_s, rt_n, CST1, Nat.reduceAdd, Nat.reduceLeDiff, va_rf, rtOk, Bool.false_eq_true, Bool.true_eq_false, if_false, if_true, ite_true, ite_false, true_and, and_true, eq_self, ne_eq, not_false_eq_true, not_true_eq_false, false_implies, true_implies, and_self, reduceCtorEq, Nat.reduceBEq, Bool.or_false, Bool.false_or, Bool.or_true, Bool.true_or, if1_0, if1_1, if1_01, one_01, zer_01, lg_cmp_ge, lg_cmp_le, lg_cmp_gt, lg_cmp_lt, lg_cmp_eq, Classical.not_not, SHm hS, SHr hS]
  refine ⟨hd, c_doorBetween (D := D) (dA := dA) (dB := dB) hS ha hb x3 hD8 (fun e he => ⟨(x4 e he).1, (x4 e he).2, (hN.2.2.2.2.2.1 e he).1, (hN.2.2.2.2.2.1 e he).2.1⟩) (fun h => ?_) (fun e he h => ?_)⟩
  · by_cases hD : D < 8
    · have hq : (nI D < 8) = True := eq_true (by ((try simp only [i_le, i_lt, i_eq, l_le, l_lt, l_eq, i_ne, l_ne, toL, l_add, l_sub1, LIT1, LIT2, Int.reduceNeg, ge_iff_le, gt_iff_lt] at *); omega))
      have eD : (nI D).toNatClampNeg = D := nI_clamp (by omega)
      have vD : vp_in (nI D) 8 := vp_in_nI hD (by decide)
      have r1 : s2 sg 4 D (nI a) 1 9 = nI D := by ((try simp (disch := omega) only [s2_y, s2_n, rg_y, rg_n, fl_y, fl_n]); (try with_reducible rfl); (try assumption))
      have r2 : s2 (s2 sg 4 D (nI a)) 5 D (nI b) 1 9 = nI D := by ((try simp (disch := omega) only [s2_y, s2_n, rg_y, rg_n, fl_y, fl_n]); (try with_reducible rfl); (try assumption))
      have r3 : s2 (s2 (s2 sg 4 D (nI a)) 5 D (nI b)) 1 9 (nI (D + 1)) 1 9 = nI (D + 1) := by ((try simp (disch := omega) only [s2_y, s2_n, rg_y, rg_n, fl_y, fl_n]); (try with_reducible rfl); (try assumption))
      simp only [D_X4_doorOn, N_X4_doorOn, ↓reduceIte, vcS, vcC, vcI, gtF, ptF, inS, inV, fv0, fv1, fv2, fv3, fw0, fw1, lg_0, lg_1, lg_2, lg_3, lg_4, lg_5, lg_6, lg_7, lg_8, lg_9, lg_10, lg_11, lg_12, lg_13, lg_14, lsq_0, lsl_0, lsq_1, lsl_1, lsq_2, lsl_2, lsq_3, lsl_3, lsq_4, lsl_4, lsq_5, lsl_5, lsq_6, lsl_6, lsq_7, lsl_7, lsq_8, lsl_8, lsq_9, lsl_9, lsq_10, lsl_10, lsq_11, lsl_11, lsq_12, lsl_12, lsq_13, lsl_13, lsq_14, lsl_14, tk_0, tk_1, tk_2, tk_3, tk_4, tk_5, tk_6, tk_7, tk_8, cs_n, cs_i, cs_l, cs_r, cs_u, nl, rt_s, rt_n, CST1, Nat.reduceAdd, Nat.reduceLeDiff, va_rf, rtOk, Bool.false_eq_true, Bool.true_eq_false, if_false, if_true, ite_true, ite_false, true_and, and_true, eq_self, ne_eq, not_false_eq_true, not_true_eq_false, false_implies, true_implies, and_self, reduceCtorEq, Nat.reduceBEq, Bool.or_false, Bool.false_or, Bool.or_true, Bool.true_or, if1_0, if1_1, if1_01, one_01, zer_01, lg_cmp_ge, lg_cmp_le, lg_cmp_gt, lg_cmp_lt, lg_cmp_eq, Classical.not_not, SHm hS, SHr hS, x3, hq, eD, vD, r1, r2, r3, nI_1, nI_pred]
      refine hk4 h hD _ ⟨fun x hx => by rw [s2_n (by omega), s2_n (by omega), s2_n (by omega)]; exact x1 x hx, fun x hx => by rw [s2_n (by omega), s2_n (by omega), s2_n (by omega)]; exact x2 x hx, by ((try simp (disch := omega) only [s2_y, s2_n, rg_y, rg_n, fl_y, fl_n]); (try with_reducible rfl); (try assumption)), fun e he => ?_, by rw [s2_n (by omega), s2_n (by omega), s2_n (by omega)]; exact x5, by rw [s2_n (by omega), s2_n (by omega), s2_n (by omega)]; exact x6⟩ (fun x k z => by ((try simp (disch := omega) only [s2_y, s2_n, rg_y, rg_n, fl_y, fl_n]); (try with_reducible rfl); (try assumption)))
      by_cases q : e = D
      · subst q
        rw [upN_y, upN_y]
        exact ⟨by ((try simp (disch := omega) only [s2_y, s2_n, rg_y, rg_n, fl_y, fl_n]); (try with_reducible rfl); (try assumption)), by ((try simp (disch := omega) only [s2_y, s2_n, rg_y, rg_n, fl_y, fl_n]); (try with_reducible rfl); (try assumption))⟩
      · rw [upN_n q, upN_n q, s2_n (by omega), s2_n (by omega), s2_n (by omega), s2_n (by omega), s2_n (by omega), s2_n (by omega)]
        exact x4 e (by omega)
    · have hq : (nI D < 8) = False := eq_false (by ((try simp only [i_le, i_lt, i_eq, l_le, l_lt, l_eq, i_ne, l_ne, toL, l_add, l_sub1, LIT1, LIT2, Int.reduceNeg, ge_iff_le, gt_iff_lt] at *); omega))
      simp only [D_X4_doorOn, N_X4_doorOn, ↓reduceIte, vcS, vcC, vcI, gtF, ptF, inS, inV, fv0, fv1, fv2, fv3, fw0, fw1, lg_0, lg_1, lg_2, lg_3, lg_4, lg_5, lg_6, lg_7, lg_8, lg_9, lg_10, lg_11, lg_12, lg_13, lg_14, lsq_0, lsl_0, lsq_1, lsl_1, lsq_2, lsl_2, lsq_3, lsl_3, lsq_4, lsl_4, lsq_5, lsl_5, lsq_6, lsl_6, lsq_7, lsl_7, lsq_8, lsl_8, lsq_9, lsl_9, lsq_10, lsl_10, lsq_11, lsl_11, lsq_12, lsl_12, lsq_13, lsl_13, lsq_14, lsl_14, tk_0, tk_1, tk_2, tk_3, tk_4, tk_5, tk_6, tk_7, tk_8, cs_n, cs_i, cs_l, cs_r, cs_u, nl, rt_s, rt_n, CST1, Nat.reduceAdd, Nat.reduceLeDiff, va_rf, rtOk, Bool.false_eq_true, Bool.true_eq_false, if_false, if_true, ite_true, ite_false, true_and, and_true, eq_self, ne_eq, not_false_eq_true, not_true_eq_false, false_implies, true_implies, and_self, reduceCtorEq, Nat.reduceBEq, Bool.or_false, Bool.false_or, Bool.or_true, Bool.true_or, if1_0, if1_1, if1_01, one_01, zer_01, lg_cmp_ge, lg_cmp_le, lg_cmp_gt, lg_cmp_lt, lg_cmp_eq, Classical.not_not, SHm hS, SHr hS, x3, hq]
      exact hk3 h (by omega)
  · have h9 : (nI e = -9) = False := nI_n9 (by omega)
    simp only [D_X4_doorOn, N_X4_doorOn, ↓reduceIte, vcS, vcC, vcI, gtF, ptF, inS, inV, fv0, fv1, fv2, fv3, fw0, fw1, lg_0, lg_1, lg_2, lg_3, lg_4, lg_5, lg_6, lg_7, lg_8, lg_9, lg_10, lg_11, lg_12, lg_13, lg_14, lsq_0, lsl_0, lsq_1, lsl_1, lsq_2, lsl_2, lsq_3, lsl_3, lsq_4, lsl_4, lsq_5, lsl_5, lsq_6, lsl_6, lsq_7, lsl_7, lsq_8, lsl_8, lsq_9, lsl_9, lsq_10, lsl_10, lsq_11, lsl_11, lsq_12, lsl_12, lsq_13, lsl_13, lsq_14, lsl_14, tk_0, tk_1, tk_2, tk_3, tk_4, tk_5, tk_6, tk_7, tk_8, cs_n, cs_i, cs_l, cs_r, cs_u, nl, rt_s, rt_n, CST1, Nat.reduceAdd, Nat.reduceLeDiff, va_rf, rtOk, Bool.false_eq_true, Bool.true_eq_false, if_false, if_true, ite_true, ite_false, true_and, and_true, eq_self, ne_eq, not_false_eq_true, not_true_eq_false, false_implies, true_implies, and_self, reduceCtorEq, Nat.reduceBEq, Bool.or_false, Bool.false_or, Bool.or_true, Bool.true_or, if1_0, if1_1, if1_01, one_01, zer_01, lg_cmp_ge, lg_cmp_le, lg_cmp_gt, lg_cmp_lt, lg_cmp_eq, Classical.not_not, SHm hS, SHr hS, h9]
    exact hk2 e he h
set_option maxHeartbeats 4000000 in
set_option maxRecDepth 100000 in
theorem c_door {a b : Int32} (hS : Sh mu ro) (hd : 4 ≤ d) (hN : Nt R P D dA dB S) (hX : C_nt sg R P D dA dB S) (hk1 : ¬ rdOk R a b → K (some (.int (-1))) sg)
    (hk2 : ∀ a' b' e : Nat, a' < 10 → b' < 10 → a = nI a' → b = nI b' → R a' b' = true → e < D → prD dA dB e a' b' → K (some (.int (nI e))) sg)
    (hk3 : ∀ a' b' : Nat, a' < 10 → b' < 10 → a = nI a' → b = nI b' → R a' b' = true → (∀ e, e < D → ¬ prD dA dB e a' b') → D = 8 → K (some (.int (-4))) sg)
    (hk4 : ∀ a' b' : Nat, a' < 10 → b' < 10 → a = nI a' → b = nI b' → R a' b' = true → (∀ e, e < D → ¬ prD dA dB e a' b') → D < 8 → ∀ σ, C_nt σ R P (D + 1) (upN dA D a') (upN dB D b') S → FCn sg σ → K (some (.int (nI D))) σ) : aCall d 96 [.ref 0, .int a, .int b] n mu ro sg K := by
  refine aCall_start (mL := 3) (cc := cX11_door) (o := 11) (ret := (some .int)) 0 (by decide) (by decide +kernel) rfl rfl rfl rfl (Nat.le_of_ble_eq_true rfl) (fun G hC hG => ?_)
  simp only [exL, List.cons_append, List.nil_append, rp_0, rp_1, rp_2, rp_3, rp_4, rp_5, rp_6, rp_7, rp_8, rp_9, rp_10, rp_11, List.append_nil]
  refine hG (fun _ => false) 80 _ _ _ _ (Nat.le_of_ble_eq_true rfl) ?_
  simp only [D_X11_door, N_X11_door, ↓reduceIte, vcS, vcC, vcI, gtF, ptF, inS, inV, fv0, fv1, fv2, fv3, fw0, fw1, lg_0, lg_1, lg_2, lg_3, lg_4, lg_5, lg_6, lg_7, lg_8, lg_9, lg_10, lg_11, lg_12, lg_13, lg_14, lsq_0, lsl_0, lsq_1, lsl_1, lsq_2, lsl_2, lsq_3, lsl_3, lsq_4, lsl_4, lsq_5, lsl_5, lsq_6, lsl_6, lsq_7, lsl_7, lsq_8, lsl_8, lsq_9, lsl_9, lsq_10, lsl_10, lsq_11, lsl_11, lsq_12, lsl_12, lsq_13, lsl_13, lsq_14, lsl_14, tk_0, tk_1, tk_2, tk_3, tk_4, tk_5, tk_6, tk_7, tk_8, cs_n, cs_i, cs_l, cs_r, cs_u, nl, rt_s, rt_n, CST1, Nat.reduceAdd, Nat.reduceLeDiff, va_rf, rtOk, Bool.false_eq_true, Bool.true_eq_false, if_false, if_true, ite_true, ite_false, true_and, and_true, eq_self, ne_eq, not_false_eq_true, not_true_eq_false, false_implies, true_implies, and_self, reduceCtorEq, Nat.reduceBEq, Bool.or_false, Bool.false_or, Bool.or_true, Bool.true_or, if1_0, if1_1, if1_01, one_01, zer_01, lg_cmp_ge, lg_cmp_le, lg_cmp_gt, lg_cmp_lt, lg_cmp_eq, Classical.not_not, SHm hS, SHr hS]
  refine ⟨by omega, c_areMachines (by omega) ?_⟩
  simp only [D_X11_door, N_X11_door, ↓reduceIte, vcS, vcC, vcI, gtF, ptF, inS, inV, fv0, fv1, fv2, fv3, fw0, fw1, lg_0, lg_1, lg_2, lg_3, lg_4, lg_5, lg_6, lg_7, lg_8, lg_9, lg_10, lg_11, lg_12, lg_13, lg_14, lsq_0, lsl_0, lsq_1, lsl_1, lsq_2, lsl_2, lsq_3, lsl_3, lsq_4, lsl_4, lsq_5, lsl_5, lsq_6, lsl_6, lsq_7, lsl_7, lsq_8, lsl_8, lsq_9, lsl_9, lsq_10, lsl_10, lsq_11, lsl_11, lsq_12, lsl_12, lsq_13, lsl_13, lsq_14, lsl_14, tk_0, tk_1, tk_2, tk_3, tk_4, tk_5, tk_6, tk_7, tk_8, cs_n, cs_i, cs_l, cs_r, cs_u, nl, rt_s, rt_n, CST1, Nat.reduceAdd, Nat.reduceLeDiff, va_rf, rtOk, Bool.false_eq_true, Bool.true_eq_false, if_false, if_true, ite_true, ite_false, true_and, and_true, eq_self, ne_eq, not_false_eq_true, not_true_eq_false, false_implies, true_implies, and_self, reduceCtorEq, Nat.reduceBEq, Bool.or_false, Bool.false_or, Bool.or_true, Bool.true_or, if1_0, if1_1, if1_01, one_01, zer_01, lg_cmp_ge, lg_cmp_le, lg_cmp_gt, lg_cmp_lt, lg_cmp_eq, Classical.not_not, SHm hS, SHr hS]
  refine ⟨fun q => hk1 (rd_no q), fun q => ⟨by omega, ?_⟩⟩
  obtain ⟨a', ha', rfl⟩ := i_of (x := a) (N := 9) q.1.1 q.1.2 (by decide)
  obtain ⟨b', hb', rfl⟩ := i_of (x := b) (N := 9) q.2.1 q.2.2 (by decide)
  refine c_hasRoad hS (by omega) (by omega) (hX.1 a' (by omega)) ?_
  simp only [D_X11_door, N_X11_door, ↓reduceIte, vcS, vcC, vcI, gtF, ptF, inS, inV, fv0, fv1, fv2, fv3, fw0, fw1, lg_0, lg_1, lg_2, lg_3, lg_4, lg_5, lg_6, lg_7, lg_8, lg_9, lg_10, lg_11, lg_12, lg_13, lg_14, lsq_0, lsl_0, lsq_1, lsl_1, lsq_2, lsl_2, lsq_3, lsl_3, lsq_4, lsl_4, lsq_5, lsl_5, lsq_6, lsl_6, lsq_7, lsl_7, lsq_8, lsl_8, lsq_9, lsl_9, lsq_10, lsl_10, lsq_11, lsl_11, lsq_12, lsl_12, lsq_13, lsl_13, lsq_14, lsl_14, tk_0, tk_1, tk_2, tk_3, tk_4, tk_5, tk_6, tk_7, tk_8, cs_n, cs_i, cs_l, cs_r, cs_u, nl, rt_s, rt_n, CST1, Nat.reduceAdd, Nat.reduceLeDiff, va_rf, rtOk, Bool.false_eq_true, Bool.true_eq_false, if_false, if_true, ite_true, ite_false, true_and, and_true, eq_self, ne_eq, not_false_eq_true, not_true_eq_false, false_implies, true_implies, and_self, reduceCtorEq, Nat.reduceBEq, Bool.or_false, Bool.false_or, Bool.or_true, Bool.true_or, if1_0, if1_1, if1_01, one_01, zer_01, lg_cmp_ge, lg_cmp_le, lg_cmp_gt, lg_cmp_lt, lg_cmp_eq, Classical.not_not, SHm hS, SHr hS]
  refine ⟨fun q2 => ⟨by omega, ?_⟩, fun q2 => hk1 (rd_no2 (by omega) (by omega) q2)⟩
  refine c_doorOn hS (by omega) hN hX (by omega) (by omega) (fun e he h => ?_) (fun h h8 => ?_) (fun h h8 σ g1 g2 => ?_)
  · simp only [D_X11_door, N_X11_door, ↓reduceIte, vcS, vcC, vcI, gtF, ptF, inS, inV, fv0, fv1, fv2, fv3, fw0, fw1, lg_0, lg_1, lg_2, lg_3, lg_4, lg_5, lg_6, lg_7, lg_8, lg_9, lg_10, lg_11, lg_12, lg_13, lg_14, lsq_0, lsl_0, lsq_1, lsl_1, lsq_2, lsl_2, lsq_3, lsl_3, lsq_4, lsl_4, lsq_5, lsl_5, lsq_6, lsl_6, lsq_7, lsl_7, lsq_8, lsl_8, lsq_9, lsl_9, lsq_10, lsl_10, lsq_11, lsl_11, lsq_12, lsl_12, lsq_13, lsl_13, lsq_14, lsl_14, tk_0, tk_1, tk_2, tk_3, tk_4, tk_5, tk_6, tk_7, tk_8, cs_n, cs_i, cs_l, cs_r, cs_u, nl, rt_s, rt_n, CST1, Nat.reduceAdd, Nat.reduceLeDiff, va_rf, rtOk, Bool.false_eq_true, Bool.true_eq_false, if_false, if_true, ite_true, ite_false, true_and, and_true, eq_self, ne_eq, not_false_eq_true, not_true_eq_false, false_implies, true_implies, and_self, reduceCtorEq, Nat.reduceBEq, Bool.or_false, Bool.false_or, Bool.or_true, Bool.true_or, if1_0, if1_1, if1_01, one_01, zer_01, lg_cmp_ge, lg_cmp_le, lg_cmp_gt, lg_cmp_lt, lg_cmp_eq, Classical.not_not, SHm hS, SHr hS]
    exact hk2 a' b' e (by omega) (by omega) rfl rfl q2 he h
  · simp only [D_X11_door, N_X11_door, ↓reduceIte, vcS, vcC, vcI, gtF, ptF, inS, inV, fv0, fv1, fv2, fv3, fw0, fw1, lg_0, lg_1, lg_2, lg_3, lg_4, lg_5, lg_6, lg_7, lg_8, lg_9, lg_10, lg_11, lg_12, lg_13, lg_14, lsq_0, lsl_0, lsq_1, lsl_1, lsq_2, lsl_2, lsq_3, lsl_3, lsq_4, lsl_4, lsq_5, lsl_5, lsq_6, lsl_6, lsq_7, lsl_7, lsq_8, lsl_8, lsq_9, lsl_9, lsq_10, lsl_10, lsq_11, lsl_11, lsq_12, lsl_12, lsq_13, lsl_13, lsq_14, lsl_14, tk_0, tk_1, tk_2, tk_3, tk_4, tk_5, tk_6, tk_7, tk_8, cs_n, cs_i, cs_l, cs_r, cs_u, nl, rt_s, rt_n, CST1, Nat.reduceAdd, Nat.reduceLeDiff, va_rf, rtOk, Bool.false_eq_true, Bool.true_eq_false, if_false, if_true, ite_true, ite_false, true_and, and_true, eq_self, ne_eq, not_false_eq_true, not_true_eq_false, false_implies, true_implies, and_self, reduceCtorEq, Nat.reduceBEq, Bool.or_false, Bool.false_or, Bool.or_true, Bool.true_or, if1_0, if1_1, if1_01, one_01, zer_01, lg_cmp_ge, lg_cmp_le, lg_cmp_gt, lg_cmp_lt, lg_cmp_eq, Classical.not_not, SHm hS, SHr hS]
    exact hk3 a' b' (by omega) (by omega) rfl rfl q2 h h8
  · simp only [D_X11_door, N_X11_door, ↓reduceIte, vcS, vcC, vcI, gtF, ptF, inS, inV, fv0, fv1, fv2, fv3, fw0, fw1, lg_0, lg_1, lg_2, lg_3, lg_4, lg_5, lg_6, lg_7, lg_8, lg_9, lg_10, lg_11, lg_12, lg_13, lg_14, lsq_0, lsl_0, lsq_1, lsl_1, lsq_2, lsl_2, lsq_3, lsl_3, lsq_4, lsl_4, lsq_5, lsl_5, lsq_6, lsl_6, lsq_7, lsl_7, lsq_8, lsl_8, lsq_9, lsl_9, lsq_10, lsl_10, lsq_11, lsl_11, lsq_12, lsl_12, lsq_13, lsl_13, lsq_14, lsl_14, tk_0, tk_1, tk_2, tk_3, tk_4, tk_5, tk_6, tk_7, tk_8, cs_n, cs_i, cs_l, cs_r, cs_u, nl, rt_s, rt_n, CST1, Nat.reduceAdd, Nat.reduceLeDiff, va_rf, rtOk, Bool.false_eq_true, Bool.true_eq_false, if_false, if_true, ite_true, ite_false, true_and, and_true, eq_self, ne_eq, not_false_eq_true, not_true_eq_false, false_implies, true_implies, and_self, reduceCtorEq, Nat.reduceBEq, Bool.or_false, Bool.false_or, Bool.or_true, Bool.true_or, if1_0, if1_1, if1_01, one_01, zer_01, lg_cmp_ge, lg_cmp_le, lg_cmp_gt, lg_cmp_lt, lg_cmp_eq, Classical.not_not, SHm hS, SHr hS]
    exact hk4 a' b' (by omega) (by omega) rfl rfl q2 h h8 σ g1 g2
set_option maxHeartbeats 4000000 in
set_option maxRecDepth 100000 in
theorem m_door {a b : Int32} (hS : Sh mu ro) (hd : 4 ≤ d) (hN : Nt R P D dA dB S) (hM : M_nt sg R P D dA dB S) (hk1 : ¬ rdOk R a b → K (some (.int (-1))) sg)
    (hk2 : ∀ a' b' e : Nat, a' < 10 → b' < 10 → a = nI a' → b = nI b' → R a' b' = true → e < D → prD dA dB e a' b' → K (some (.int (nI e))) sg)
    (hk3 : ∀ a' b' : Nat, a' < 10 → b' < 10 → a = nI a' → b = nI b' → R a' b' = true → (∀ e, e < D → ¬ prD dA dB e a' b') → D = 8 → K (some (.int (-4))) sg)
    (hk4 : ∀ a' b' : Nat, a' < 10 → b' < 10 → a = nI a' → b = nI b' → R a' b' = true → (∀ e, e < D → ¬ prD dA dB e a' b') → D < 8 → ∀ σ, M_nt σ R P (D + 1) (upN dA D a') (upN dB D b') S → FMn sg σ → K (some (.int (nI D))) σ) : aCall d 169 [.ref 48, .int a, .int b] n mu ro sg K := by
  obtain ⟨x1, x2, x3, x4, x5, x6⟩ := id hM
  have hD8 := hN.1
  refine aCall_start (mL := 3) (cc := cX12_door) (o := 12) (ret := (some .int)) 0 (by decide) (by decide +kernel) rfl rfl rfl rfl (Nat.le_of_ble_eq_true rfl) (fun G hC hG => ?_)
  simp only [exL, List.cons_append, List.nil_append, rp_0, rp_1, rp_2, rp_3, rp_4, rp_5, rp_6, rp_7, rp_8, rp_9, rp_10, rp_11, List.append_nil]
  refine hG (fun _ => false) 140 _ _ _ _ (Nat.le_of_ble_eq_true rfl) ?_
  simp only [D_X12_door, N_X12_door, ↓reduceIte, vcS, vcC, vcI, gtF, ptF, inS, inV, fv0, fv1, fv2, fv3, fw0, fw1, lg_0, lg_1, lg_2, lg_3, lg_4, lg_5, lg_6, lg_7, lg_8, lg_9, lg_10, lg_11, lg_12, lg_13, lg_14, lsq_0, lsl_0, lsq_1, lsl_1, lsq_2, lsl_2, lsq_3, lsl_3, lsq_4, lsl_4, lsq_5, lsl_5, lsq_6, lsl_6, lsq_7, lsl_7, lsq_8, lsl_8, lsq_9, lsl_9, lsq_10, lsl_10, lsq_11, lsl_11, lsq_12, lsl_12, lsq_13, lsl_13, lsq_14, lsl_14, tk_0, tk_1, tk_2, tk_3, tk_4, tk_5, tk_6, tk_7, tk_8, cs_n, cs_i, cs_l, cs_r, cs_u, nl, rt_s, rt_n, CST1, Nat.reduceAdd, Nat.reduceLeDiff, va_rf, rtOk, Bool.false_eq_true, Bool.true_eq_false, if_false, if_true, ite_true, ite_false, true_and, and_true, eq_self, ne_eq, not_false_eq_true, not_true_eq_false, false_implies, true_implies, and_self, reduceCtorEq, Nat.reduceBEq, Bool.or_false, Bool.false_or, Bool.or_true, Bool.true_or, if1_0, if1_1, if1_01, one_01, zer_01, lg_cmp_ge, lg_cmp_le, lg_cmp_gt, lg_cmp_lt, lg_cmp_eq, Classical.not_not, SHm hS, SHr hS]
  refine ⟨by omega, m_noRoad hS (by omega) x1 (fun q => ?_) (fun a' b' ha hb e1 e2 q2 => ?_)⟩
  · simp only [D_X12_door, N_X12_door, ↓reduceIte, vcS, vcC, vcI, gtF, ptF, inS, inV, fv0, fv1, fv2, fv3, fw0, fw1, lg_0, lg_1, lg_2, lg_3, lg_4, lg_5, lg_6, lg_7, lg_8, lg_9, lg_10, lg_11, lg_12, lg_13, lg_14, lsq_0, lsl_0, lsq_1, lsl_1, lsq_2, lsl_2, lsq_3, lsl_3, lsq_4, lsl_4, lsq_5, lsl_5, lsq_6, lsl_6, lsq_7, lsl_7, lsq_8, lsl_8, lsq_9, lsl_9, lsq_10, lsl_10, lsq_11, lsl_11, lsq_12, lsl_12, lsq_13, lsl_13, lsq_14, lsl_14, tk_0, tk_1, tk_2, tk_3, tk_4, tk_5, tk_6, tk_7, tk_8, cs_n, cs_i, cs_l, cs_r, cs_u, nl, rt_s, rt_n, CST1, Nat.reduceAdd, Nat.reduceLeDiff, va_rf, rtOk, Bool.false_eq_true, Bool.true_eq_false, if_false, if_true, ite_true, ite_false, true_and, and_true, eq_self, ne_eq, not_false_eq_true, not_true_eq_false, false_implies, true_implies, and_self, reduceCtorEq, Nat.reduceBEq, Bool.or_false, Bool.false_or, Bool.or_true, Bool.true_or, if1_0, if1_1, if1_01, one_01, zer_01, lg_cmp_ge, lg_cmp_le, lg_cmp_gt, lg_cmp_lt, lg_cmp_eq, Classical.not_not, SHm hS, SHr hS, z10]
    exact hk1 q
  · subst e1 e2
    have hab := hN.ne (show a' < 10 by omega) q2
    have ei : (nI (10 * a' + b')).toNatClampNeg = 10 * a' + b' := nI_clamp (by omega)
    have vi : vp_in (nI (10 * a' + b')) 100 := vp_in_nI (by omega) (by decide)
    have ej : (nI (10 * b' + a')).toNatClampNeg = 10 * b' + a' := nI_clamp (by omega)
    have vj : vp_in (nI (10 * b' + a')) 100 := vp_in_nI (by omega) (by decide)
    rcases x6 a' b' ha hb with ⟨e, e1, e2, e3⟩ | ⟨e1, e2⟩
    · have h0 : (nI e < 0) = False := nI_lt0 (by omega)
      simp only [D_X12_door, N_X12_door, ↓reduceIte, vcS, vcC, vcI, gtF, ptF, inS, inV, fv0, fv1, fv2, fv3, fw0, fw1, lg_0, lg_1, lg_2, lg_3, lg_4, lg_5, lg_6, lg_7, lg_8, lg_9, lg_10, lg_11, lg_12, lg_13, lg_14, lsq_0, lsl_0, lsq_1, lsl_1, lsq_2, lsl_2, lsq_3, lsl_3, lsq_4, lsl_4, lsq_5, lsl_5, lsq_6, lsl_6, lsq_7, lsl_7, lsq_8, lsl_8, lsq_9, lsl_9, lsq_10, lsl_10, lsq_11, lsl_11, lsq_12, lsl_12, lsq_13, lsl_13, lsq_14, lsl_14, tk_0, tk_1, tk_2, tk_3, tk_4, tk_5, tk_6, tk_7, tk_8, cs_n, cs_i, cs_l, cs_r, cs_u, nl, rt_s, rt_n, CST1, Nat.reduceAdd, Nat.reduceLeDiff, va_rf, rtOk, Bool.false_eq_true, Bool.true_eq_false, if_false, if_true, ite_true, ite_false, true_and, and_true, eq_self, ne_eq, not_false_eq_true, not_true_eq_false, false_implies, true_implies, and_self, reduceCtorEq, Nat.reduceBEq, Bool.or_false, Bool.false_or, Bool.or_true, Bool.true_or, if1_0, if1_1, if1_01, one_01, zer_01, lg_cmp_ge, lg_cmp_le, lg_cmp_gt, lg_cmp_lt, lg_cmp_eq, Classical.not_not, SHm hS, SHr hS, ml10, nI_add, ei, vi, e3, h0]
      exact hk2 a' b' e ha hb rfl rfl q2 e1 e2
    · have h0 : ((-9 : Int32) < 0) = True := eq_true (by decide)
      by_cases hD : D < 8
      · have hq : (nI D = 8) = False := eq_false (fun z => by have := (nI_eq (b := 8) (by omega) (by decide)).mp z; omega)
        have eD : (nI D).toNatClampNeg = D := nI_clamp (by omega)
        have vD : vp_in (nI D) 8 := vp_in_nI hD (by decide)
        have r1 : s2 sg 52 D (nI a') 48 4 = nI D := by ((try simp (disch := omega) only [s2_y, s2_n, rg_y, rg_n, fl_y, fl_n]); (try with_reducible rfl); (try assumption))
        have r2 : s2 (s2 sg 52 D (nI a')) 53 D (nI b') 48 4 = nI D := by ((try simp (disch := omega) only [s2_y, s2_n, rg_y, rg_n, fl_y, fl_n]); (try with_reducible rfl); (try assumption))
        have r3 : s2 (s2 (s2 sg 52 D (nI a')) 53 D (nI b')) 51 (10 * a' + b') (nI D) 48 4 = nI D := by ((try simp (disch := omega) only [s2_y, s2_n, rg_y, rg_n, fl_y, fl_n]); (try with_reducible rfl); (try assumption))
        have r4 : s2 (s2 (s2 (s2 sg 52 D (nI a')) 53 D (nI b')) 51 (10 * a' + b') (nI D)) 51 (10 * b' + a') (nI D) 48 4 = nI D := by ((try simp (disch := omega) only [s2_y, s2_n, rg_y, rg_n, fl_y, fl_n]); (try with_reducible rfl); (try assumption))
        have r5 : s2 (s2 (s2 (s2 (s2 sg 52 D (nI a')) 53 D (nI b')) 51 (10 * a' + b') (nI D)) 51 (10 * b' + a') (nI D)) 48 4 (nI (D + 1)) 48 4 = nI (D + 1) := by ((try simp (disch := omega) only [s2_y, s2_n, rg_y, rg_n, fl_y, fl_n]); (try with_reducible rfl); (try assumption))
        simp only [D_X12_door, N_X12_door, ↓reduceIte, vcS, vcC, vcI, gtF, ptF, inS, inV, fv0, fv1, fv2, fv3, fw0, fw1, lg_0, lg_1, lg_2, lg_3, lg_4, lg_5, lg_6, lg_7, lg_8, lg_9, lg_10, lg_11, lg_12, lg_13, lg_14, lsq_0, lsl_0, lsq_1, lsl_1, lsq_2, lsl_2, lsq_3, lsl_3, lsq_4, lsl_4, lsq_5, lsl_5, lsq_6, lsl_6, lsq_7, lsl_7, lsq_8, lsl_8, lsq_9, lsl_9, lsq_10, lsl_10, lsq_11, lsl_11, lsq_12, lsl_12, lsq_13, lsl_13, lsq_14, lsl_14, tk_0, tk_1, tk_2, tk_3, tk_4, tk_5, tk_6, tk_7, tk_8, cs_n, cs_i, cs_l, cs_r, cs_u, nl, rt_s, rt_n, CST1, Nat.reduceAdd, Nat.reduceLeDiff, va_rf, rtOk, Bool.false_eq_true, Bool.true_eq_false, if_false, if_true, ite_true, ite_false, true_and, and_true, eq_self, ne_eq, not_false_eq_true, not_true_eq_false, false_implies, true_implies, and_self, reduceCtorEq, Nat.reduceBEq, Bool.or_false, Bool.false_or, Bool.or_true, Bool.true_or, if1_0, if1_1, if1_01, one_01, zer_01, lg_cmp_ge, lg_cmp_le, lg_cmp_gt, lg_cmp_lt, lg_cmp_eq, Classical.not_not, SHm hS, SHr hS, ml10, nI_add, ei, vi, ej, vj, e1, h0, x3, hq, eD, vD, r1, r2, r3, r4, r5, nI_1, nI_pred]
        have o : ∀ x k, ¬ (x = 51 ∨ x = 52 ∨ x = 53 ∨ x = 48 ∧ k = 4) → s2 (s2 (s2 (s2 (s2 sg 52 D (nI a')) 53 D (nI b')) 51 (10 * a' + b') (nI D)) 51 (10 * b' + a') (nI D)) 48 4 (nI (D + 1)) x k = sg x k := fun x k z => by ((try simp (disch := omega) only [s2_y, s2_n, rg_y, rg_n, fl_y, fl_n]); (try with_reducible rfl); (try assumption))
        refine hk4 a' b' ha hb rfl rfl q2 e2 hD _ ⟨fun x hx => by rw [o _ _ (by omega)]; exact x1 x hx, fun x hx => by rw [o _ _ (by omega)]; exact x2 x hx, by ((try simp (disch := omega) only [s2_y, s2_n, rg_y, rg_n, fl_y, fl_n]); (try with_reducible rfl); (try assumption)), fun e he => ?_, by rw [o _ _ (by omega)]; exact x5, fun x y hx hy => ?_⟩ (fun x k z1 z2 => o x k (by omega))
        · by_cases q : e = D
          · subst q
            rw [upN_y, upN_y]
            exact ⟨by ((try simp (disch := omega) only [s2_y, s2_n, rg_y, rg_n, fl_y, fl_n]); (try with_reducible rfl); (try assumption)), by ((try simp (disch := omega) only [s2_y, s2_n, rg_y, rg_n, fl_y, fl_n]); (try with_reducible rfl); (try assumption))⟩
          · rw [upN_n q, upN_n q]
            have := x4 e (by omega)
            exact ⟨by ((try simp (disch := omega) only [s2_y, s2_n, rg_y, rg_n, fl_y, fl_n]); (try with_reducible rfl); (try assumption)); exact this.1, by ((try simp (disch := omega) only [s2_y, s2_n, rg_y, rg_n, fl_y, fl_n]); (try with_reducible rfl); (try assumption)); exact this.2⟩
        · by_cases q : (x = a' ∧ y = b') ∨ (x = b' ∧ y = a')
          · refine Or.inl ⟨D, by omega, ?_, ?_⟩
            · rw [prD_D]; omega
            · rcases q with ⟨rfl, rfl⟩ | ⟨rfl, rfl⟩
              · ((try simp (disch := omega) only [s2_y, s2_n, rg_y, rg_n, fl_y, fl_n]); (try with_reducible rfl); (try assumption))
              · ((try simp (disch := omega) only [s2_y, s2_n, rg_y, rg_n, fl_y, fl_n]); (try with_reducible rfl); (try assumption))
          · have e9 : s2 (s2 (s2 (s2 (s2 sg 52 D (nI a')) 53 D (nI b')) 51 (10 * a' + b') (nI D)) 51 (10 * b' + a') (nI D)) 48 4 (nI (D + 1)) 51 (10 * x + y) = sg 51 (10 * x + y) := by ((try simp (disch := omega) only [s2_y, s2_n, rg_y, rg_n, fl_y, fl_n]); (try with_reducible rfl); (try assumption))
            rw [e9]
            rcases x6 x y hx hy with ⟨e, g1, g2, g3⟩ | ⟨g1, g2⟩
            · exact Or.inl ⟨e, by omega, by rw [prD_u g1]; exact g2, g3⟩
            · refine Or.inr ⟨g1, fun e he z => ?_⟩
              by_cases q3 : e = D
              · subst q3
                rw [prD_D] at z
                omega
              · rw [prD_u (by omega)] at z
                exact g2 e (by omega) z
      · have hD9 : D = 8 := by omega
        have hq : (nI D = 8) = True := eq_true (by rw [hD9]; rfl)
        simp only [D_X12_door, N_X12_door, ↓reduceIte, vcS, vcC, vcI, gtF, ptF, inS, inV, fv0, fv1, fv2, fv3, fw0, fw1, lg_0, lg_1, lg_2, lg_3, lg_4, lg_5, lg_6, lg_7, lg_8, lg_9, lg_10, lg_11, lg_12, lg_13, lg_14, lsq_0, lsl_0, lsq_1, lsl_1, lsq_2, lsl_2, lsq_3, lsl_3, lsq_4, lsl_4, lsq_5, lsl_5, lsq_6, lsl_6, lsq_7, lsl_7, lsq_8, lsl_8, lsq_9, lsl_9, lsq_10, lsl_10, lsq_11, lsl_11, lsq_12, lsl_12, lsq_13, lsl_13, lsq_14, lsl_14, tk_0, tk_1, tk_2, tk_3, tk_4, tk_5, tk_6, tk_7, tk_8, cs_n, cs_i, cs_l, cs_r, cs_u, nl, rt_s, rt_n, CST1, Nat.reduceAdd, Nat.reduceLeDiff, va_rf, rtOk, Bool.false_eq_true, Bool.true_eq_false, if_false, if_true, ite_true, ite_false, true_and, and_true, eq_self, ne_eq, not_false_eq_true, not_true_eq_false, false_implies, true_implies, and_self, reduceCtorEq, Nat.reduceBEq, Bool.or_false, Bool.false_or, Bool.or_true, Bool.true_or, if1_0, if1_1, if1_01, one_01, zer_01, lg_cmp_ge, lg_cmp_le, lg_cmp_gt, lg_cmp_lt, lg_cmp_eq, Classical.not_not, SHm hS, SHr hS, ml10, nI_add, ei, vi, e1, h0, x3, hq]
        exact hk3 a' b' ha hb rfl rfl q2 e2 hD9
set_option maxHeartbeats 4000000 in
set_option maxRecDepth 100000 in
theorem b_door {a b : Int32} (hS : Sh mu ro) (hd : 4 ≤ d) (hI : I_nt sg) (hk : ∀ r sg2, I_nt sg2 → Fr [1] sg sg2 → K r sg2) : aCall d 96 [.ref 0, .int a, .int b] n mu ro sg (fun r1 sg1 => aCall d 169 [.ref 48, .int a, .int b] n mu ro sg1 (fun r2 sg2 => r1 = r2 ∧ K r1 sg2)) := by
  obtain ⟨R, P, D, dA, dB, S, hN, hX, hM⟩ := id hI
  have hD8 := hN.1
  refine c_door hS hd hN hX (fun q => ?_) (fun a' b' e ha hb ea eb q2 he q => ?_) (fun a' b' ha hb ea eb q2 q q8 => ?_) (fun a' b' ha hb ea eb q2 q q8 σ h1 h2 => ?_)
  · exact m_door hS hd hN hM (fun _ => ⟨rfl, hk _ _ hI Fr.rfl⟩) (fun a' b' _ g1 g2 g3 g4 g5 => absurd ⟨a', b', g1, g2, g3, g4, g5⟩ q) (fun a' b' g1 g2 g3 g4 g5 => absurd ⟨a', b', g1, g2, g3, g4, g5⟩ q) (fun a' b' g1 g2 g3 g4 g5 => absurd ⟨a', b', g1, g2, g3, g4, g5⟩ q)
  · refine m_door hS hd hN hM (fun z => absurd ⟨a', b', ha, hb, ea, eb, q2⟩ z) (fun a2 b2 e2 g1 g2 g3 g4 g5 g6 g7 => ?_) (fun a2 b2 g1 g2 g3 g4 g5 g6 => ?_) (fun a2 b2 g1 g2 g3 g4 g5 g6 => ?_)
    all_goals
      have z1 : a' = a2 := nI_inj (by omega) (by omega) ea g3
      have z2 : b' = b2 := nI_inj (by omega) (by omega) eb g4
      subst z1 z2
    · have : e = e2 := by
        refine hN.2.2.2.2.2.2.1 e e2 he g6 ?_
        unfold prD at q g7 ⊢
        omega
      subst this
      exact ⟨rfl, hk _ _ hI Fr.rfl⟩
    · exact absurd q (g6 e he)
    · exact absurd q (g6 e he)
  · refine m_door hS hd hN hM (fun z => absurd ⟨a', b', ha, hb, ea, eb, q2⟩ z) (fun a2 b2 e2 g1 g2 g3 g4 g5 g6 g7 => ?_) (fun a2 b2 g1 g2 g3 g4 g5 g6 g7 => ⟨rfl, hk _ _ hI Fr.rfl⟩) (fun a2 b2 g1 g2 g3 g4 g5 g6 g7 => absurd q8 (by omega))
    have z1 : a' = a2 := nI_inj (by omega) (by omega) ea g3
    have z2 : b' = b2 := nI_inj (by omega) (by omega) eb g4
    subst z1 z2
    exact absurd g7 (q e2 g6)
  · refine m_door hS hd hN (h2.m hM) (fun z => absurd ⟨a', b', ha, hb, ea, eb, q2⟩ z) (fun a2 b2 e2 g1 g2 g3 g4 g5 g6 g7 => ?_) (fun a2 b2 g1 g2 g3 g4 g5 g6 g7 => absurd q8 (by omega)) (fun a2 b2 g1 g2 g3 g4 g5 g6 g7 σ2 g8 g9 => ?_)
    · have z1 : a' = a2 := nI_inj (by omega) (by omega) ea g3
      have z2 : b' = b2 := nI_inj (by omega) (by omega) eb g4
      subst z1 z2
      exact absurd g7 (q e2 g6)
    · have z1 : a' = a2 := nI_inj (by omega) (by omega) ea g3
      have z2 : b' = b2 := nI_inj (by omega) (by omega) eb g4
      subst z1 z2
      exact ⟨rfl, hk _ _ ⟨_, _, _, _, _, _, hN.door ha hb q2 q q8, g9.c h1, g8⟩ (fr_net h2 g9)⟩
-- shut
def upB (f : Nat → Bool) (a : Nat) (v : Bool) : Nat → Bool := fun y => if y = a then v else f y
theorem Nt.shut {e : Nat} {v : Bool} (h : Nt R P D dA dB S) (he : e < D) (hR : R (dA e) (dB e) = true) : Nt R P D dA dB (upB S e v) := by
  obtain ⟨h1, h2, h3, h4, h5, h6, h7, h8⟩ := h
  refine ⟨h1, h2, h3, h4, h5, h6, h7, fun f hf q => ?_⟩
  unfold upB at q
  by_cases z : f = e
  · subst z
    exact ⟨he, hR⟩
  · rw [if_neg z] at q
    exact h8 f hf q
theorem rw_up {w : Int32} {e : Nat} {v : Bool} (h : rwO w 8 S) (he : e < 8) (hv : S e = !v) : rwO (w ^^^ (1 <<< (nI e &&& 31))) 8 (upB S e v) := by
  refine rw_cg (rw_xor h (rw_bit he (by omega))) (fun j hj => ?_)
  unfold upB
  by_cases q : j = e
  · rw [if_pos q, decide_eq_true q, q, hv]
    cases v <;> rfl
  · rw [if_neg q, decide_eq_false q, Bool.xor_false]
set_option maxHeartbeats 4000000 in
set_option maxRecDepth 100000 in
theorem c_shut {x : Int32} {p : Prop} [Decidable p] (hS : Sh mu ro) (hd : 4 ≤ d) (hN : Nt R P D dA dB S) (hX : C_nt sg R P D dA dB S) (hk1 : ¬ (0 ≤ x.toInt ∧ x.toInt ≤ (D : Int) - 1) → K (some (.int (-1))) sg) (hk2 : ∀ e : Nat, e < D → x = nI e → R (dA e) (dB e) = false → K (some (.int (-3))) sg)
    (hk3 : ∀ e : Nat, e < D → x = nI e → R (dA e) (dB e) = true → (S e = true ↔ p) → K (some (.int 0)) sg) (hk4 : ∀ e : Nat, e < D → x = nI e → R (dA e) (dB e) = true → ¬ (S e = true ↔ p) → ∀ σ, C_nt σ R P D dA dB (upB S e (decide p)) → FCn sg σ → K (some (.int 1)) σ) : aCall d 97 [.ref 0, .int x, .int (if p then 1 else 0)] n mu ro sg K := by
  obtain ⟨x1, x2, x3, x4, x5, x6⟩ := id hX
  have hD8 := hN.1
  have hm1 := nI_m1 (N := D) (by omega)
  refine aCall_start (mL := 3) (cc := cX11_shut) (o := 11) (ret := (some .int)) 0 (by decide) (by decide +kernel) rfl rfl rfl rfl (Nat.le_of_ble_eq_true rfl) (fun G hC hG => ?_)
  simp only [exL, List.cons_append, List.nil_append, rp_0, rp_1, rp_2, rp_3, rp_4, rp_5, rp_6, rp_7, rp_8, rp_9, rp_10, rp_11, List.append_nil]
  refine hG (fun _ => false) 80 _ _ _ _ (Nat.le_of_ble_eq_true rfl) ?_
  simp only [D_X11_shut, N_X11_shut, ↓reduceIte, vcS, vcC, vcI, gtF, ptF, inS, inV, fv0, fv1, fv2, fv3, fw0, fw1, lg_0, lg_1, lg_2, lg_3, lg_4, lg_5, lg_6, lg_7, lg_8, lg_9, lg_10, lg_11, lg_12, lg_13, lg_14, lsq_0, lsl_0, lsq_1, lsl_1, lsq_2, lsl_2, lsq_3, lsl_3, lsq_4, lsl_4, lsq_5, lsl_5, lsq_6, lsl_6, lsq_7, lsl_7, lsq_8, lsl_8, lsq_9, lsl_9, lsq_10, lsl_10, lsq_11, lsl_11, lsq_12, lsl_12, lsq_13, lsl_13, lsq_14, lsl_14, tk_0, tk_1, tk_2, tk_3, tk_4, tk_5, tk_6, tk_7, tk_8, cs_n, cs_i, cs_l, cs_r, cs_u, nl, rt_s, rt_n, CST1, Nat.reduceAdd, Nat.reduceLeDiff, va_rf, rtOk, Bool.false_eq_true, Bool.true_eq_false, if_false, if_true, ite_true, ite_false, true_and, and_true, eq_self, ne_eq, not_false_eq_true, not_true_eq_false, false_implies, true_implies, and_self, reduceCtorEq, Nat.reduceBEq, Bool.or_false, Bool.false_or, Bool.or_true, Bool.true_or, if1_0, if1_1, if1_01, one_01, zer_01, lg_cmp_ge, lg_cmp_le, lg_cmp_gt, lg_cmp_lt, lg_cmp_eq, Classical.not_not, SHm hS, SHr hS, x3]
  refine ⟨by omega, c_isIn ?_⟩
  simp only [D_X11_shut, N_X11_shut, ↓reduceIte, vcS, vcC, vcI, gtF, ptF, inS, inV, fv0, fv1, fv2, fv3, fw0, fw1, lg_0, lg_1, lg_2, lg_3, lg_4, lg_5, lg_6, lg_7, lg_8, lg_9, lg_10, lg_11, lg_12, lg_13, lg_14, lsq_0, lsl_0, lsq_1, lsl_1, lsq_2, lsl_2, lsq_3, lsl_3, lsq_4, lsl_4, lsq_5, lsl_5, lsq_6, lsl_6, lsq_7, lsl_7, lsq_8, lsl_8, lsq_9, lsl_9, lsq_10, lsl_10, lsq_11, lsl_11, lsq_12, lsl_12, lsq_13, lsl_13, lsq_14, lsl_14, tk_0, tk_1, tk_2, tk_3, tk_4, tk_5, tk_6, tk_7, tk_8, cs_n, cs_i, cs_l, cs_r, cs_u, nl, rt_s, rt_n, CST1, Nat.reduceAdd, Nat.reduceLeDiff, va_rf, rtOk, Bool.false_eq_true, Bool.true_eq_false, if_false, if_true, ite_true, ite_false, true_and, and_true, eq_self, ne_eq, not_false_eq_true, not_true_eq_false, false_implies, true_implies, and_self, reduceCtorEq, Nat.reduceBEq, Bool.or_false, Bool.false_or, Bool.or_true, Bool.true_or, if1_0, if1_1, if1_01, one_01, zer_01, lg_cmp_ge, lg_cmp_le, lg_cmp_gt, lg_cmp_lt, lg_cmp_eq, Classical.not_not, SHm hS, SHr hS, LIT1, hm1]
  refine ⟨fun q => ⟨by omega, ?_⟩, fun q => hk1 q⟩
  obtain ⟨e, he', rfl⟩ := i_of (x := x) (N := 7) q.1 (by omega) (by decide)
  have te : (nI e).toInt = e := nI_toInt (by omega)
  have he : e < D := by omega
  have ee : (nI e).toNatClampNeg = e := nI_clamp (by omega)
  have ve : vp_in (nI e) 8 := vp_in_nI (by omega) (by decide)
  obtain ⟨y1, y2⟩ := x4 e he
  obtain ⟨u1, u2, u3⟩ := hN.2.2.2.2.2.1 e he
  refine aCall_start (mL := 2) (cc := cX4_doorStands) (o := 4) (ret := (some .boolean)) 0 (by decide) (by decide +kernel) rfl rfl rfl rfl (Nat.le_of_ble_eq_true rfl) (fun G hC hG => ?_)
  simp only [exL, List.cons_append, List.nil_append, rp_0, rp_1, rp_2, rp_3, rp_4, rp_5, rp_6, rp_7, rp_8, rp_9, rp_10, rp_11, List.append_nil]
  refine hG (fun _ => false) 60 _ _ _ _ (Nat.le_of_ble_eq_true rfl) ?_
  simp only [D_X4_doorStands, N_X4_doorStands, ↓reduceIte, vcS, vcC, vcI, gtF, ptF, inS, inV, fv0, fv1, fv2, fv3, fw0, fw1, lg_0, lg_1, lg_2, lg_3, lg_4, lg_5, lg_6, lg_7, lg_8, lg_9, lg_10, lg_11, lg_12, lg_13, lg_14, lsq_0, lsl_0, lsq_1, lsl_1, lsq_2, lsl_2, lsq_3, lsl_3, lsq_4, lsl_4, lsq_5, lsl_5, lsq_6, lsl_6, lsq_7, lsl_7, lsq_8, lsl_8, lsq_9, lsl_9, lsq_10, lsl_10, lsq_11, lsl_11, lsq_12, lsl_12, lsq_13, lsl_13, lsq_14, lsl_14, tk_0, tk_1, tk_2, tk_3, tk_4, tk_5, tk_6, tk_7, tk_8, cs_n, cs_i, cs_l, cs_r, cs_u, nl, rt_s, rt_n, CST1, Nat.reduceAdd, Nat.reduceLeDiff, va_rf, rtOk, Bool.false_eq_true, Bool.true_eq_false, if_false, if_true, ite_true, ite_false, true_and, and_true, eq_self, ne_eq, not_false_eq_true, not_true_eq_false, false_implies, true_implies, and_self, reduceCtorEq, Nat.reduceBEq, Bool.or_false, Bool.false_or, Bool.or_true, Bool.true_or, if1_0, if1_1, if1_01, one_01, zer_01, lg_cmp_ge, lg_cmp_le, lg_cmp_gt, lg_cmp_lt, lg_cmp_eq, Classical.not_not, SHm hS, SHr hS, ee, ve, y1, y2]
  refine ⟨by omega, c_hasRoad hS u1 u2 (x1 _ u1) ?_⟩
  simp only [D_X4_doorStands, N_X4_doorStands, ↓reduceIte, vcS, vcC, vcI, gtF, ptF, inS, inV, fv0, fv1, fv2, fv3, fw0, fw1, lg_0, lg_1, lg_2, lg_3, lg_4, lg_5, lg_6, lg_7, lg_8, lg_9, lg_10, lg_11, lg_12, lg_13, lg_14, lsq_0, lsl_0, lsq_1, lsl_1, lsq_2, lsl_2, lsq_3, lsl_3, lsq_4, lsl_4, lsq_5, lsl_5, lsq_6, lsl_6, lsq_7, lsl_7, lsq_8, lsl_8, lsq_9, lsl_9, lsq_10, lsl_10, lsq_11, lsl_11, lsq_12, lsl_12, lsq_13, lsl_13, lsq_14, lsl_14, tk_0, tk_1, tk_2, tk_3, tk_4, tk_5, tk_6, tk_7, tk_8, cs_n, cs_i, cs_l, cs_r, cs_u, nl, rt_s, rt_n, CST1, Nat.reduceAdd, Nat.reduceLeDiff, va_rf, rtOk, Bool.false_eq_true, Bool.true_eq_false, if_false, if_true, ite_true, ite_false, true_and, and_true, eq_self, ne_eq, not_false_eq_true, not_true_eq_false, false_implies, true_implies, and_self, reduceCtorEq, Nat.reduceBEq, Bool.or_false, Bool.false_or, Bool.or_true, Bool.true_or, if1_0, if1_1, if1_01, one_01, zer_01, lg_cmp_ge, lg_cmp_le, lg_cmp_gt, lg_cmp_lt, lg_cmp_eq, Classical.not_not, SHm hS, SHr hS]
  refine ⟨fun q2 => ⟨by omega, ?_⟩, fun q2 => hk2 e he rfl (by cases z : R (dA e) (dB e) with | false => rfl | true => exact absurd z q2)⟩
  have hq := rw_bt x5 (show e < 8 by omega) (by omega)
  refine aCall_start (mL := 2) (cc := cX4_isShut) (o := 4) (ret := (some .boolean)) 0 (by decide) (by decide +kernel) rfl rfl rfl rfl (Nat.le_of_ble_eq_true rfl) (fun G hC hG => ?_)
  simp only [exL, List.cons_append, List.nil_append, rp_0, rp_1, rp_2, rp_3, rp_4, rp_5, rp_6, rp_7, rp_8, rp_9, rp_10, rp_11, List.append_nil]
  refine hG (fun _ => false) 60 _ _ _ _ (Nat.le_of_ble_eq_true rfl) ?_
  simp only [D_X4_isShut, ↓reduceIte, vcS, vcC, vcI, gtF, ptF, inS, inV, fv0, fv1, fv2, fv3, fw0, fw1, lg_0, lg_1, lg_2, lg_3, lg_4, lg_5, lg_6, lg_7, lg_8, lg_9, lg_10, lg_11, lg_12, lg_13, lg_14, lsq_0, lsl_0, lsq_1, lsl_1, lsq_2, lsl_2, lsq_3, lsl_3, lsq_4, lsl_4, lsq_5, lsl_5, lsq_6, lsl_6, lsq_7, lsl_7, lsq_8, lsl_8, lsq_9, lsl_9, lsq_10, lsl_10, lsq_11, lsl_11, lsq_12, lsl_12, lsq_13, lsl_13, lsq_14, lsl_14, tk_0, tk_1, tk_2, tk_3, tk_4, tk_5, tk_6, tk_7, tk_8, cs_n, cs_i, cs_l, cs_r, cs_u, nl, rt_s, rt_n, CST1, Nat.reduceAdd, Nat.reduceLeDiff, va_rf, rtOk, Bool.false_eq_true, Bool.true_eq_false, if_false, if_true, ite_true, ite_false, true_and, and_true, eq_self, ne_eq, not_false_eq_true, not_true_eq_false, false_implies, true_implies, and_self, reduceCtorEq, Nat.reduceBEq, Bool.or_false, Bool.false_or, Bool.or_true, Bool.true_or, if1_0, if1_1, if1_01, one_01, zer_01, lg_cmp_ge, lg_cmp_le, lg_cmp_gt, lg_cmp_lt, lg_cmp_eq, Classical.not_not, SHm hS, SHr hS, bt_ne, hq]
  have fin : (¬ (S e = true ↔ p) → K (some (.int 1)) (s2 sg 1 10 (sg 1 10 ^^^ (1 <<< (nI e &&& 31))))) := by
    intro q3
    refine hk4 e he rfl q2 q3 _ ⟨fun x hx => by rw [s2_n (by omega)]; exact x1 x hx, fun x hx => by rw [s2_n (by omega)]; exact x2 x hx, by ((try simp (disch := omega) only [s2_y, s2_n, rg_y, rg_n, fl_y, fl_n]); (try with_reducible rfl); (try assumption)), fun f hf => by rw [s2_n (by omega), s2_n (by omega)]; exact x4 f hf, by rw [s2_y ⟨rfl, rfl⟩]; exact rw_up x5 (by omega) (eqb q3), by rw [s2_n (by omega)]; exact x6⟩ (fun x k z => by ((try simp (disch := omega) only [s2_y, s2_n, rg_y, rg_n, fl_y, fl_n]); (try with_reducible rfl); (try assumption)))
  have trn : ∀ Z : Option Value → aS → Prop, Z none (s2 sg 1 10 (sg 1 10 ^^^ (1 <<< (nI e &&& 31)))) → aCall (d - 1) 30 [.ref 1, .int (nI e)] n mu ro sg Z := by
    intro Z hZ
    refine aCall_start (mL := 2) (cc := cX4_turnDoor) (o := 4) (ret := none) 0 (by decide) (by decide +kernel) rfl rfl rfl rfl (Nat.le_of_ble_eq_true rfl) (fun G hC hG => ?_)
    simp only [exL, List.cons_append, List.nil_append, rp_0, rp_1, rp_2, rp_3, rp_4, rp_5, rp_6, rp_7, rp_8, rp_9, rp_10, rp_11, List.append_nil]
    refine hG (fun _ => false) 60 _ _ _ _ (Nat.le_of_ble_eq_true rfl) ?_
    simp only [D_X4_turnDoor, ↓reduceIte, vcS, vcC, vcI, gtF, ptF, inS, inV, fv0, fv1, fv2, fv3, fw0, fw1, lg_0, lg_1, lg_2, lg_3, lg_4, lg_5, lg_6, lg_7, lg_8, lg_9, lg_10, lg_11, lg_12, lg_13, lg_14, lsq_0, lsl_0, lsq_1, lsl_1, lsq_2, lsl_2, lsq_3, lsl_3, lsq_4, lsl_4, lsq_5, lsl_5, lsq_6, lsl_6, lsq_7, lsl_7, lsq_8, lsl_8, lsq_9, lsl_9, lsq_10, lsl_10, lsq_11, lsl_11, lsq_12, lsl_12, lsq_13, lsl_13, lsq_14, lsl_14, tk_0, tk_1, tk_2, tk_3, tk_4, tk_5, tk_6, tk_7, tk_8, cs_n, cs_i, cs_l, cs_r, cs_u, nl, rt_s, rt_n, CST1, Nat.reduceAdd, Nat.reduceLeDiff, va_rf, rtOk, Bool.false_eq_true, Bool.true_eq_false, if_false, if_true, ite_true, ite_false, true_and, and_true, eq_self, ne_eq, not_false_eq_true, not_true_eq_false, false_implies, true_implies, and_self, reduceCtorEq, Nat.reduceBEq, Bool.or_false, Bool.false_or, Bool.or_true, Bool.true_or, if1_0, if1_1, if1_01, one_01, zer_01, lg_cmp_ge, lg_cmp_le, lg_cmp_gt, lg_cmp_lt, lg_cmp_eq, Classical.not_not, SHm hS, SHr hS]
    exact hZ
  refine ⟨fun q3 => ?_, fun q3 => ?_⟩
  · by_cases hp : p
    · have q4 : ¬ (S e = true ↔ p) := fun z => q3 (z.mpr hp)
      have hz : ((0 : Int32) = if p then 1 else 0) = False := eq_false (by rw [if_pos hp]; decide)
      simp only [D_X11_shut, N_X11_shut, ↓reduceIte, vcS, vcC, vcI, gtF, ptF, inS, inV, fv0, fv1, fv2, fv3, fw0, fw1, lg_0, lg_1, lg_2, lg_3, lg_4, lg_5, lg_6, lg_7, lg_8, lg_9, lg_10, lg_11, lg_12, lg_13, lg_14, lsq_0, lsl_0, lsq_1, lsl_1, lsq_2, lsl_2, lsq_3, lsl_3, lsq_4, lsl_4, lsq_5, lsl_5, lsq_6, lsl_6, lsq_7, lsl_7, lsq_8, lsl_8, lsq_9, lsl_9, lsq_10, lsl_10, lsq_11, lsl_11, lsq_12, lsl_12, lsq_13, lsl_13, lsq_14, lsl_14, tk_0, tk_1, tk_2, tk_3, tk_4, tk_5, tk_6, tk_7, tk_8, cs_n, cs_i, cs_l, cs_r, cs_u, nl, rt_s, rt_n, CST1, Nat.reduceAdd, Nat.reduceLeDiff, va_rf, rtOk, Bool.false_eq_true, Bool.true_eq_false, if_false, if_true, ite_true, ite_false, true_and, and_true, eq_self, ne_eq, not_false_eq_true, not_true_eq_false, false_implies, true_implies, and_self, reduceCtorEq, Nat.reduceBEq, Bool.or_false, Bool.false_or, Bool.or_true, Bool.true_or, if1_0, if1_1, if1_01, one_01, zer_01, lg_cmp_ge, lg_cmp_le, lg_cmp_gt, lg_cmp_lt, lg_cmp_eq, Classical.not_not, SHm hS, SHr hS, hz]
      refine ⟨by omega, trn _ ?_⟩
      simp only [D_X11_shut, N_X11_shut, ↓reduceIte, vcS, vcC, vcI, gtF, ptF, inS, inV, fv0, fv1, fv2, fv3, fw0, fw1, lg_0, lg_1, lg_2, lg_3, lg_4, lg_5, lg_6, lg_7, lg_8, lg_9, lg_10, lg_11, lg_12, lg_13, lg_14, lsq_0, lsl_0, lsq_1, lsl_1, lsq_2, lsl_2, lsq_3, lsl_3, lsq_4, lsl_4, lsq_5, lsl_5, lsq_6, lsl_6, lsq_7, lsl_7, lsq_8, lsl_8, lsq_9, lsl_9, lsq_10, lsl_10, lsq_11, lsl_11, lsq_12, lsl_12, lsq_13, lsl_13, lsq_14, lsl_14, tk_0, tk_1, tk_2, tk_3, tk_4, tk_5, tk_6, tk_7, tk_8, cs_n, cs_i, cs_l, cs_r, cs_u, nl, rt_s, rt_n, CST1, Nat.reduceAdd, Nat.reduceLeDiff, va_rf, rtOk, Bool.false_eq_true, Bool.true_eq_false, if_false, if_true, ite_true, ite_false, true_and, and_true, eq_self, ne_eq, not_false_eq_true, not_true_eq_false, false_implies, true_implies, and_self, reduceCtorEq, Nat.reduceBEq, Bool.or_false, Bool.false_or, Bool.or_true, Bool.true_or, if1_0, if1_1, if1_01, one_01, zer_01, lg_cmp_ge, lg_cmp_le, lg_cmp_gt, lg_cmp_lt, lg_cmp_eq, Classical.not_not, SHm hS, SHr hS]
      exact fin q4
    · have hz : ((0 : Int32) = if p then 1 else 0) = True := eq_true (by rw [if_neg hp])
      simp only [D_X11_shut, N_X11_shut, ↓reduceIte, vcS, vcC, vcI, gtF, ptF, inS, inV, fv0, fv1, fv2, fv3, fw0, fw1, lg_0, lg_1, lg_2, lg_3, lg_4, lg_5, lg_6, lg_7, lg_8, lg_9, lg_10, lg_11, lg_12, lg_13, lg_14, lsq_0, lsl_0, lsq_1, lsl_1, lsq_2, lsl_2, lsq_3, lsl_3, lsq_4, lsl_4, lsq_5, lsl_5, lsq_6, lsl_6, lsq_7, lsl_7, lsq_8, lsl_8, lsq_9, lsl_9, lsq_10, lsl_10, lsq_11, lsl_11, lsq_12, lsl_12, lsq_13, lsl_13, lsq_14, lsl_14, tk_0, tk_1, tk_2, tk_3, tk_4, tk_5, tk_6, tk_7, tk_8, cs_n, cs_i, cs_l, cs_r, cs_u, nl, rt_s, rt_n, CST1, Nat.reduceAdd, Nat.reduceLeDiff, va_rf, rtOk, Bool.false_eq_true, Bool.true_eq_false, if_false, if_true, ite_true, ite_false, true_and, and_true, eq_self, ne_eq, not_false_eq_true, not_true_eq_false, false_implies, true_implies, and_self, reduceCtorEq, Nat.reduceBEq, Bool.or_false, Bool.false_or, Bool.or_true, Bool.true_or, if1_0, if1_1, if1_01, one_01, zer_01, lg_cmp_ge, lg_cmp_le, lg_cmp_gt, lg_cmp_lt, lg_cmp_eq, Classical.not_not, SHm hS, SHr hS, hz]
      exact hk3 e he rfl q2 ⟨fun z => absurd z q3, fun z => absurd z hp⟩
  · by_cases hp : p
    · have hz : ((1 : Int32) = if p then 1 else 0) = True := eq_true (by rw [if_pos hp])
      simp only [D_X11_shut, N_X11_shut, ↓reduceIte, vcS, vcC, vcI, gtF, ptF, inS, inV, fv0, fv1, fv2, fv3, fw0, fw1, lg_0, lg_1, lg_2, lg_3, lg_4, lg_5, lg_6, lg_7, lg_8, lg_9, lg_10, lg_11, lg_12, lg_13, lg_14, lsq_0, lsl_0, lsq_1, lsl_1, lsq_2, lsl_2, lsq_3, lsl_3, lsq_4, lsl_4, lsq_5, lsl_5, lsq_6, lsl_6, lsq_7, lsl_7, lsq_8, lsl_8, lsq_9, lsl_9, lsq_10, lsl_10, lsq_11, lsl_11, lsq_12, lsl_12, lsq_13, lsl_13, lsq_14, lsl_14, tk_0, tk_1, tk_2, tk_3, tk_4, tk_5, tk_6, tk_7, tk_8, cs_n, cs_i, cs_l, cs_r, cs_u, nl, rt_s, rt_n, CST1, Nat.reduceAdd, Nat.reduceLeDiff, va_rf, rtOk, Bool.false_eq_true, Bool.true_eq_false, if_false, if_true, ite_true, ite_false, true_and, and_true, eq_self, ne_eq, not_false_eq_true, not_true_eq_false, false_implies, true_implies, and_self, reduceCtorEq, Nat.reduceBEq, Bool.or_false, Bool.false_or, Bool.or_true, Bool.true_or, if1_0, if1_1, if1_01, one_01, zer_01, lg_cmp_ge, lg_cmp_le, lg_cmp_gt, lg_cmp_lt, lg_cmp_eq, Classical.not_not, SHm hS, SHr hS, hz]
      exact hk3 e he rfl q2 ⟨fun _ => hp, fun _ => q3⟩
    · have q4 : ¬ (S e = true ↔ p) := fun z => hp (z.mp q3)
      have hz : ((1 : Int32) = if p then 1 else 0) = False := eq_false (by rw [if_neg hp]; decide)
      simp only [D_X11_shut, N_X11_shut, ↓reduceIte, vcS, vcC, vcI, gtF, ptF, inS, inV, fv0, fv1, fv2, fv3, fw0, fw1, lg_0, lg_1, lg_2, lg_3, lg_4, lg_5, lg_6, lg_7, lg_8, lg_9, lg_10, lg_11, lg_12, lg_13, lg_14, lsq_0, lsl_0, lsq_1, lsl_1, lsq_2, lsl_2, lsq_3, lsl_3, lsq_4, lsl_4, lsq_5, lsl_5, lsq_6, lsl_6, lsq_7, lsl_7, lsq_8, lsl_8, lsq_9, lsl_9, lsq_10, lsl_10, lsq_11, lsl_11, lsq_12, lsl_12, lsq_13, lsl_13, lsq_14, lsl_14, tk_0, tk_1, tk_2, tk_3, tk_4, tk_5, tk_6, tk_7, tk_8, cs_n, cs_i, cs_l, cs_r, cs_u, nl, rt_s, rt_n, CST1, Nat.reduceAdd, Nat.reduceLeDiff, va_rf, rtOk, Bool.false_eq_true, Bool.true_eq_false, if_false, if_true, ite_true, ite_false, true_and, and_true, eq_self, ne_eq, not_false_eq_true, not_true_eq_false, false_implies, true_implies, and_self, reduceCtorEq, Nat.reduceBEq, Bool.or_false, Bool.false_or, Bool.or_true, Bool.true_or, if1_0, if1_1, if1_01, one_01, zer_01, lg_cmp_ge, lg_cmp_le, lg_cmp_gt, lg_cmp_lt, lg_cmp_eq, Classical.not_not, SHm hS, SHr hS, hz]
      refine ⟨by omega, trn _ ?_⟩
      simp only [D_X11_shut, N_X11_shut, ↓reduceIte, vcS, vcC, vcI, gtF, ptF, inS, inV, fv0, fv1, fv2, fv3, fw0, fw1, lg_0, lg_1, lg_2, lg_3, lg_4, lg_5, lg_6, lg_7, lg_8, lg_9, lg_10, lg_11, lg_12, lg_13, lg_14, lsq_0, lsl_0, lsq_1, lsl_1, lsq_2, lsl_2, lsq_3, lsl_3, lsq_4, lsl_4, lsq_5, lsl_5, lsq_6, lsl_6, lsq_7, lsl_7, lsq_8, lsl_8, lsq_9, lsl_9, lsq_10, lsl_10, lsq_11, lsl_11, lsq_12, lsl_12, lsq_13, lsl_13, lsq_14, lsl_14, tk_0, tk_1, tk_2, tk_3, tk_4, tk_5, tk_6, tk_7, tk_8, cs_n, cs_i, cs_l, cs_r, cs_u, nl, rt_s, rt_n, CST1, Nat.reduceAdd, Nat.reduceLeDiff, va_rf, rtOk, Bool.false_eq_true, Bool.true_eq_false, if_false, if_true, ite_true, ite_false, true_and, and_true, eq_self, ne_eq, not_false_eq_true, not_true_eq_false, false_implies, true_implies, and_self, reduceCtorEq, Nat.reduceBEq, Bool.or_false, Bool.false_or, Bool.or_true, Bool.true_or, if1_0, if1_1, if1_01, one_01, zer_01, lg_cmp_ge, lg_cmp_le, lg_cmp_gt, lg_cmp_lt, lg_cmp_eq, Classical.not_not, SHm hS, SHr hS]
      exact fin q4
set_option maxHeartbeats 4000000 in
set_option maxRecDepth 100000 in
theorem m_shut {x : Int32} {p : Prop} [Decidable p] (hS : Sh mu ro) (hd : 4 ≤ d) (hN : Nt R P D dA dB S) (hM : M_nt sg R P D dA dB S) (hk1 : ¬ (0 ≤ x.toInt ∧ x.toInt ≤ (D : Int) - 1) → K (some (.int (-1))) sg) (hk2 : ∀ e : Nat, e < D → x = nI e → R (dA e) (dB e) = false → K (some (.int (-3))) sg)
    (hk3 : ∀ e : Nat, e < D → x = nI e → R (dA e) (dB e) = true → (S e = true ↔ p) → K (some (.int 0)) sg) (hk4 : ∀ e : Nat, e < D → x = nI e → R (dA e) (dB e) = true → ¬ (S e = true ↔ p) → ∀ σ, M_nt σ R P D dA dB (upB S e (decide p)) → FMn sg σ → K (some (.int 1)) σ) : aCall d 170 [.ref 48, .int x, .int (if p then 1 else 0)] n mu ro sg K := by
  obtain ⟨x1, x2, x3, x4, x5, x6⟩ := id hM
  have hD8 := hN.1
  have hm1 := lI_m1 (N := D) (by omega)
  refine aCall_start (mL := 3) (cc := cX12_shut) (o := 12) (ret := (some .int)) 0 (by decide) (by decide +kernel) rfl rfl rfl rfl (Nat.le_of_ble_eq_true rfl) (fun G hC hG => ?_)
  simp only [exL, List.cons_append, List.nil_append, rp_0, rp_1, rp_2, rp_3, rp_4, rp_5, rp_6, rp_7, rp_8, rp_9, rp_10, rp_11, List.append_nil]
  refine hG (fun _ => false) 80 _ _ _ _ (Nat.le_of_ble_eq_true rfl) ?_
  simp only [D_X12_shut, ↓reduceIte, vcS, vcC, vcI, gtF, ptF, inS, inV, fv0, fv1, fv2, fv3, fw0, fw1, lg_0, lg_1, lg_2, lg_3, lg_4, lg_5, lg_6, lg_7, lg_8, lg_9, lg_10, lg_11, lg_12, lg_13, lg_14, lsq_0, lsl_0, lsq_1, lsl_1, lsq_2, lsl_2, lsq_3, lsl_3, lsq_4, lsl_4, lsq_5, lsl_5, lsq_6, lsl_6, lsq_7, lsl_7, lsq_8, lsl_8, lsq_9, lsl_9, lsq_10, lsl_10, lsq_11, lsl_11, lsq_12, lsl_12, lsq_13, lsl_13, lsq_14, lsl_14, tk_0, tk_1, tk_2, tk_3, tk_4, tk_5, tk_6, tk_7, tk_8, cs_n, cs_i, cs_l, cs_r, cs_u, nl, rt_s, rt_n, CST1, Nat.reduceAdd, Nat.reduceLeDiff, va_rf, rtOk, Bool.false_eq_true, Bool.true_eq_false, if_false, if_true, ite_true, ite_false, true_and, and_true, eq_self, ne_eq, not_false_eq_true, not_true_eq_false, false_implies, true_implies, and_self, reduceCtorEq, Nat.reduceBEq, Bool.or_false, Bool.false_or, Bool.or_true, Bool.true_or, if1_0, if1_1, if1_01, one_01, zer_01, lg_cmp_ge, lg_cmp_le, lg_cmp_gt, lg_cmp_lt, lg_cmp_eq, Classical.not_not, SHm hS, SHr hS, x3]
  refine ⟨by omega, m_in ?_⟩
  simp only [D_X12_shut, ↓reduceIte, vcS, vcC, vcI, gtF, ptF, inS, inV, fv0, fv1, fv2, fv3, fw0, fw1, lg_0, lg_1, lg_2, lg_3, lg_4, lg_5, lg_6, lg_7, lg_8, lg_9, lg_10, lg_11, lg_12, lg_13, lg_14, lsq_0, lsl_0, lsq_1, lsl_1, lsq_2, lsl_2, lsq_3, lsl_3, lsq_4, lsl_4, lsq_5, lsl_5, lsq_6, lsl_6, lsq_7, lsl_7, lsq_8, lsl_8, lsq_9, lsl_9, lsq_10, lsl_10, lsq_11, lsl_11, lsq_12, lsl_12, lsq_13, lsl_13, lsq_14, lsl_14, tk_0, tk_1, tk_2, tk_3, tk_4, tk_5, tk_6, tk_7, tk_8, cs_n, cs_i, cs_l, cs_r, cs_u, nl, rt_s, rt_n, CST1, Nat.reduceAdd, Nat.reduceLeDiff, va_rf, rtOk, Bool.false_eq_true, Bool.true_eq_false, if_false, if_true, ite_true, ite_false, true_and, and_true, eq_self, ne_eq, not_false_eq_true, not_true_eq_false, false_implies, true_implies, and_self, reduceCtorEq, Nat.reduceBEq, Bool.or_false, Bool.false_or, Bool.or_true, Bool.true_or, if1_0, if1_1, if1_01, one_01, zer_01, lg_cmp_ge, lg_cmp_le, lg_cmp_gt, lg_cmp_lt, lg_cmp_eq, Classical.not_not, SHm hS, SHr hS, LIT2, toL, hm1]
  refine ⟨fun q => ?_, fun q => hk1 q⟩
  obtain ⟨e, he', rfl⟩ := i_of (x := x) (N := 7) q.1 (by omega) (by decide)
  have te : (nI e).toInt = e := nI_toInt (by omega)
  have he : e < D := by omega
  have ee : (nI e).toNatClampNeg = e := nI_clamp (by omega)
  have ve : vp_in (nI e) 8 := vp_in_nI (by omega) (by decide)
  obtain ⟨y1, y2⟩ := x4 e he
  obtain ⟨u1, u2, u3⟩ := hN.2.2.2.2.2.1 e he
  have ea : (nI (dA e)).toNatClampNeg = dA e := nI_clamp (by omega)
  have va : vp_in (nI (dA e)) 10 := vp_in_nI u1 (by decide)
  have hq1 : ((sg 49 (dA e) >>> (nI (dB e) &&& 31)) &&& 1 = 1) = (R (dA e) (dB e) = true) := rw_bt (x1 _ u1) u2 (by omega)
  have hq2 : ((sg 48 7 >>> (nI e &&& 31)) &&& 1 = 1) = (S e = true) := rw_bt x5 (show e < 8 by omega) (by omega)
  simp only [D_X12_shut, ↓reduceIte, vcS, vcC, vcI, gtF, ptF, inS, inV, fv0, fv1, fv2, fv3, fw0, fw1, lg_0, lg_1, lg_2, lg_3, lg_4, lg_5, lg_6, lg_7, lg_8, lg_9, lg_10, lg_11, lg_12, lg_13, lg_14, lsq_0, lsl_0, lsq_1, lsl_1, lsq_2, lsl_2, lsq_3, lsl_3, lsq_4, lsl_4, lsq_5, lsl_5, lsq_6, lsl_6, lsq_7, lsl_7, lsq_8, lsl_8, lsq_9, lsl_9, lsq_10, lsl_10, lsq_11, lsl_11, lsq_12, lsl_12, lsq_13, lsl_13, lsq_14, lsl_14, tk_0, tk_1, tk_2, tk_3, tk_4, tk_5, tk_6, tk_7, tk_8, cs_n, cs_i, cs_l, cs_r, cs_u, nl, rt_s, rt_n, CST1, Nat.reduceAdd, Nat.reduceLeDiff, va_rf, rtOk, Bool.false_eq_true, Bool.true_eq_false, if_false, if_true, ite_true, ite_false, true_and, and_true, eq_self, ne_eq, not_false_eq_true, not_true_eq_false, false_implies, true_implies, and_self, reduceCtorEq, Nat.reduceBEq, Bool.or_false, Bool.false_or, Bool.or_true, Bool.true_or, if1_0, if1_1, if1_01, one_01, zer_01, lg_cmp_ge, lg_cmp_le, lg_cmp_gt, lg_cmp_lt, lg_cmp_eq, Classical.not_not, SHm hS, SHr hS, ee, ve, y1, y2, ea, va]
  refine ⟨by omega, m_hasBit ?_⟩
  simp only [D_X12_shut, ↓reduceIte, vcS, vcC, vcI, gtF, ptF, inS, inV, fv0, fv1, fv2, fv3, fw0, fw1, lg_0, lg_1, lg_2, lg_3, lg_4, lg_5, lg_6, lg_7, lg_8, lg_9, lg_10, lg_11, lg_12, lg_13, lg_14, lsq_0, lsl_0, lsq_1, lsl_1, lsq_2, lsl_2, lsq_3, lsl_3, lsq_4, lsl_4, lsq_5, lsl_5, lsq_6, lsl_6, lsq_7, lsl_7, lsq_8, lsl_8, lsq_9, lsl_9, lsq_10, lsl_10, lsq_11, lsl_11, lsq_12, lsl_12, lsq_13, lsl_13, lsq_14, lsl_14, tk_0, tk_1, tk_2, tk_3, tk_4, tk_5, tk_6, tk_7, tk_8, cs_n, cs_i, cs_l, cs_r, cs_u, nl, rt_s, rt_n, CST1, Nat.reduceAdd, Nat.reduceLeDiff, va_rf, rtOk, Bool.false_eq_true, Bool.true_eq_false, if_false, if_true, ite_true, ite_false, true_and, and_true, eq_self, ne_eq, not_false_eq_true, not_true_eq_false, false_implies, true_implies, and_self, reduceCtorEq, Nat.reduceBEq, Bool.or_false, Bool.false_or, Bool.or_true, Bool.true_or, if1_0, if1_1, if1_01, one_01, zer_01, lg_cmp_ge, lg_cmp_le, lg_cmp_gt, lg_cmp_lt, lg_cmp_eq, Classical.not_not, SHm hS, SHr hS, hq1]
  refine ⟨fun q2 => ⟨by omega, m_hasBit ?_⟩, fun q2 => hk2 e he rfl (by cases z : R (dA e) (dB e) with | false => rfl | true => exact absurd z q2)⟩
  simp only [D_X12_shut, ↓reduceIte, vcS, vcC, vcI, gtF, ptF, inS, inV, fv0, fv1, fv2, fv3, fw0, fw1, lg_0, lg_1, lg_2, lg_3, lg_4, lg_5, lg_6, lg_7, lg_8, lg_9, lg_10, lg_11, lg_12, lg_13, lg_14, lsq_0, lsl_0, lsq_1, lsl_1, lsq_2, lsl_2, lsq_3, lsl_3, lsq_4, lsl_4, lsq_5, lsl_5, lsq_6, lsl_6, lsq_7, lsl_7, lsq_8, lsl_8, lsq_9, lsl_9, lsq_10, lsl_10, lsq_11, lsl_11, lsq_12, lsl_12, lsq_13, lsl_13, lsq_14, lsl_14, tk_0, tk_1, tk_2, tk_3, tk_4, tk_5, tk_6, tk_7, tk_8, cs_n, cs_i, cs_l, cs_r, cs_u, nl, rt_s, rt_n, CST1, Nat.reduceAdd, Nat.reduceLeDiff, va_rf, rtOk, Bool.false_eq_true, Bool.true_eq_false, if_false, if_true, ite_true, ite_false, true_and, and_true, eq_self, ne_eq, not_false_eq_true, not_true_eq_false, false_implies, true_implies, and_self, reduceCtorEq, Nat.reduceBEq, Bool.or_false, Bool.false_or, Bool.or_true, Bool.true_or, if1_0, if1_1, if1_01, one_01, zer_01, lg_cmp_ge, lg_cmp_le, lg_cmp_gt, lg_cmp_lt, lg_cmp_eq, Classical.not_not, SHm hS, SHr hS, hq2, if_if]
  refine ⟨fun q3 => ?_, fun q3 => hk3 e he rfl q2 q3⟩
  refine hk4 e he rfl q2 q3 _ ⟨fun x hx => by rw [s2_n (by omega)]; exact x1 x hx, fun x hx => by rw [s2_n (by omega)]; exact x2 x hx, by ((try simp (disch := omega) only [s2_y, s2_n, rg_y, rg_n, fl_y, fl_n]); (try with_reducible rfl); (try assumption)), fun f hf => by rw [s2_n (by omega), s2_n (by omega)]; exact x4 f hf, by rw [s2_y ⟨rfl, rfl⟩]; exact rw_up x5 (by omega) (eqb q3), fun x y hx hy => by rw [s2_n (by omega)]; exact x6 x y hx hy⟩ (fun x k z1 z2 => by ((try simp (disch := omega) only [s2_y, s2_n, rg_y, rg_n, fl_y, fl_n]); (try with_reducible rfl); (try assumption)))
set_option maxHeartbeats 4000000 in
set_option maxRecDepth 100000 in
theorem b_shut {x : Int32} {p : Prop} [Decidable p] (hS : Sh mu ro) (hd : 4 ≤ d) (hI : I_nt sg) (hk : ∀ r sg2, I_nt sg2 → Fr [1] sg sg2 → K r sg2) : aCall d 97 [.ref 0, .int x, .int (if p then 1 else 0)] n mu ro sg (fun r1 sg1 => aCall d 170 [.ref 48, .int x, .int (if p then 1 else 0)] n mu ro sg1 (fun r2 sg2 => r1 = r2 ∧ K r1 sg2)) := by
  obtain ⟨R, P, D, dA, dB, S, hN, hX, hM⟩ := id hI
  have hD8 := hN.1
  have mc : ∀ e : Nat, e < D → x = nI e → 0 ≤ x.toInt ∧ x.toInt ≤ (D : Int) - 1 := fun e he h => by rw [h, nI_toInt (by omega)]; omega
  refine c_shut hS hd hN hX (fun q => ?_) (fun e he hx q => ?_) (fun e he hx q q2 => ?_) (fun e he hx q q2 σ h1 h2 => ?_)
  · exact m_shut hS hd hN hM (fun _ => ⟨rfl, hk _ _ hI Fr.rfl⟩) (fun e he h => absurd (mc e he h) q) (fun e he h => absurd (mc e he h) q) (fun e he h => absurd (mc e he h) q)
  · refine m_shut hS hd hN hM (fun z => absurd (mc e he hx) z) (fun _ _ _ _ => ⟨rfl, hk _ _ hI Fr.rfl⟩) (fun f hf hxf g => ?_) (fun f hf hxf g => ?_)
    all_goals
      have z1 : e = f := nI_inj (by omega) (by omega) hx hxf
      subst z1
      rw [q] at g
      exact absurd g (by decide)
  · refine m_shut hS hd hN hM (fun z => absurd (mc e he hx) z) (fun f hf hxf g => ?_) (fun _ _ _ _ _ => ⟨rfl, hk _ _ hI Fr.rfl⟩) (fun f hf hxf g g2 => ?_)
    all_goals
      have z1 : e = f := nI_inj (by omega) (by omega) hx hxf
      subst z1
    · rw [q] at g
      exact absurd g (by decide)
    · exact absurd q2 g2
  · refine m_shut hS hd hN (h2.m hM) (fun z => absurd (mc e he hx) z) (fun f hf hxf g => ?_) (fun f hf hxf g g2 => ?_) (fun f hf hxf g g2 σ2 g3 g4 => ?_)
    all_goals
      have z1 : e = f := nI_inj (by omega) (by omega) hx hxf
      subst z1
    · rw [q] at g
      exact absurd g (by decide)
    · exact absurd g2 q2
    · exact ⟨rfl, hk _ _ ⟨_, _, _, _, _, _, hN.shut he q, g4.c h1, g3⟩ (fr_net h2 g4)⟩
end H45
