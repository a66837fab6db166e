/-! part 53: least on both sides -/
section H53
variable {d n N : Nat} {mu : aM} {ro : aR} {sg : aS} {K : Option Value → aS → Prop} {R P : Nat → Nat → Bool} {D : Nat} {dA dB : Nat → Nat} {S T : Nat → Bool} {A B : Nat → Bool} {WA WB : Nat → Nat}
def lbF (ok : Nat → Bool) (h : Nat → Int32) : Nat → Option (Nat × Int32)
  | 0 => none
  | j + 1 => if ok j = true then (match lbF ok h j with
    | none => some (j, h j)
    | some p => if h j < p.2 ∨ (h j = p.2 ∧ pcU j 16 < pcU p.1 16) then some (j, h j) else some p) else lbF ok h j
theorem lb_lt {ok : Nat → Bool} {h : Nat → Int32} : ∀ m p, lbF ok h m = some p → p.1 < m
  | 0, _, q => absurd q (by simp [lbF])
  | m + 1, p, q => by
    rw [lbF] at q
    by_cases g : ok m = true
    · rw [if_pos g] at q
      cases e : lbF ok h m with
      | none =>
        rw [e] at q
        have := Option.some.inj q
        rw [← this]
        exact Nat.lt_succ_self m
      | some p' =>
        rw [e] at q
        have hp := lb_lt m p' e
        simp only at q
        by_cases g2 : h m < p'.2 ∨ (h m = p'.2 ∧ pcU m 16 < pcU p'.1 16)
        · rw [if_pos g2] at q
          have := Option.some.inj q
          rw [← this]
          exact Nat.lt_succ_self m
        · rw [if_neg g2] at q
          have := Option.some.inj q
          rw [← this]
          omega
    · rw [if_neg g] at q
      have := lb_lt m p q
      omega
theorem lb_cg {ok ok' : Nat → Bool} {h h' : Nat → Int32} (h1 : ∀ j, ok j = ok' j) (h2 : ∀ j, h j = h' j) (m : Nat) : lbF ok h m = lbF ok' h' m := by
  rw [show ok = ok' from funext h1, show h = h' from funext h2]
theorem lb_n {ok : Nat → Bool} {h : Nat → Int32} {j : Nat} (g : ok j = false) : lbF ok h (j + 1) = lbF ok h j := by rw [lbF, if_neg (by rw [g]; decide)]
theorem lb_0 {ok : Nat → Bool} {h : Nat → Int32} {j : Nat} (g : ok j = true) (e : lbF ok h j = none) : lbF ok h (j + 1) = some (j, h j) := by rw [lbF, if_pos g, e]
theorem lb_y {ok : Nat → Bool} {h : Nat → Int32} {j : Nat} {p : Nat × Int32} (g : ok j = true) (e : lbF ok h j = some p) (c : h j < p.2 ∨ (h j = p.2 ∧ pcU j 16 < pcU p.1 16)) : lbF ok h (j + 1) = some (j, h j) := by
  rw [lbF, if_pos g, e]
  simp only
  rw [if_pos c]
theorem lb_o {ok : Nat → Bool} {h : Nat → Int32} {j : Nat} {p : Nat × Int32} (g : ok j = true) (e : lbF ok h j = some p) (c : ¬ (h j < p.2 ∨ (h j = p.2 ∧ pcU j 16 < pcU p.1 16))) : lbF ok h (j + 1) = some p := by
  rw [lbF, if_pos g, e]
  simp only
  rw [if_neg c]
def lbB (o : Option (Nat × Int32)) : Int32 := match o with
  | none => -9
  | some p => nI p.1
def lbH (z : Int32) (o : Option (Nat × Int32)) : Int32 := match o with
  | none => z
  | some p => p.2
def lbR (o : Option (Nat × Int32)) (y : Int32) : Int32 := match o with
  | none => -9
  | some p => if y = 0 then nI p.1 else p.2
def ltE (R P : Nat → Nat → Bool) (D : Nat) (dA dB : Nat → Nat) (S : Nat → Bool) (j : Nat) : Nat → Nat → Bool := opE R P D dA dB (fun e => S e || bt (nI j) e) false
def ltO (R P : Nat → Nat → Bool) (D : Nat) (dA dB : Nat → Nat) (S A B : Nat → Bool) (j : Nat) : Bool := !anB (fun e => bt (nI j) e && S e) 8 && !anB (fun y => stB (ltE R P D dA dB S j) A 10 y && B y) 10
def ltH (R P : Nat → Nat → Bool) (D : Nat) (dA dB : Nat → Nat) (S : Nat → Bool) (WA WB : Nat → Nat) (N : Nat) (f : Nat → Int32) (j : Nat) : Int32 := smG f (sdF (ltE R P D dA dB S j) WA WB N) N
theorem FSc.c {s s' : aS} (h : FSc s s') (hX : C_nt s R P D dA dB S) : C_nt s' R P D dA dB S := by
  have o : ∀ x, 2 ≤ x → x ≤ 5 → s' x = s x := fun x h1 h2 => funext (fun k => h x k (by omega) (by omega) (by omega) (by omega))
  unfold C_nt at *
  rw [h 1 8 (by decide) (by decide) (by decide) (by decide), h 1 9 (by decide) (by decide) (by decide) (by decide), h 1 10 (by decide) (by decide) (by decide) (by decide), o 2 (by decide) (by decide), o 3 (by decide) (by decide), o 4 (by decide) (by decide), o 5 (by decide) (by decide)]
  exact hX
theorem nj_rw {j : Nat} (h : j < 256) : rwO (nI j) 8 (bt (nI j)) := by
  have : (nI j).toInt = j := nI_toInt (by omega)
  exact rw_of (by omega) (by omega) (by have : (2 : Int) ^ 8 = 256 := (by decide); omega)
set_option maxHeartbeats 4000000 in
set_option maxRecDepth 100000 in
theorem c_least {a b y : Int32} (hS : Sh mu ro) (hd : 4 ≤ d) (hNt : Nt R P D dA dB S) (hX : C_nt sg R P D dA dB S) (hN : sg 9 3 = nI N) (hN8 : N ≤ 8) (hW : ∀ j, j < N → sg 10 j = nI (WA j) ∧ WA j < 10 ∧ sg 11 j = nI (WB j) ∧ WB j < 10) (hk1 : ¬ (okP a b ∧ 0 ≤ y.toInt ∧ y.toInt ≤ 1) → K (some (.int (-2))) sg)
    (hk2 : okP a b → (0 ≤ y.toInt ∧ y.toInt ≤ 1) → ∀ σ, FSc sg σ → K (some (.int (lbR (lbF (ltO R P D dA dB S (bt a) (bt b)) (ltH R P D dA dB S WA WB N (sg 12)) (2 ^ D)) y))) σ) : aCall d 129 [.ref 0, .int a, .int b, .int y] n mu ro sg K := by
  have hD8 := hNt.1
  have hp := (dr_p D (by omega)).1
  have hs := dr_s D (by omega)
  refine aCall_start (mL := 8) (cc := cX11_least) (o := 11) (ret := (some .int)) 4 (by decide) (by decide +kernel) rfl rfl rfl rfl (Nat.le_of_ble_eq_true rfl) (fun G hC hG => ?_)
  simp only [exL, List.cons_append, List.nil_append, rp_0, rp_1, rp_2, rp_3, rp_4, rp_5, rp_6, rp_7, rp_8, rp_9, rp_10, rp_11, List.append_nil]
  refine hG (fun q => q == 31) 80 _ _ _ _ (Nat.le_of_ble_eq_true rfl) ?_
  simp only [D_X11_least, N_X11_least, ↓reduceIte, vcS, vcC, vcI, gtF, ptF, inS, inV, fv0, fv1, fv2, fv3, fw0, fw1, lg_0, lg_1, lg_2, lg_3, lg_4, lg_5, lg_6, lg_7, lg_8, lg_9, lg_10, lg_11, lg_12, lg_13, lg_14, lsq_0, lsl_0, lsq_1, lsl_1, lsq_2, lsl_2, lsq_3, lsl_3, lsq_4, lsl_4, lsq_5, lsl_5, lsq_6, lsl_6, lsq_7, lsl_7, lsq_8, lsl_8, lsq_9, lsl_9, lsq_10, lsl_10, lsq_11, lsl_11, lsq_12, lsl_12, lsq_13, lsl_13, lsq_14, lsl_14, tk_0, tk_1, tk_2, tk_3, tk_4, tk_5, tk_6, tk_7, tk_8, cs_n, cs_i, cs_l, cs_r, cs_u, nl, rt_s, rt_n, CST1, Nat.reduceAdd, Nat.reduceLeDiff, va_rf, rtOk, Bool.false_eq_true, Bool.true_eq_false, if_false, if_true, ite_true, ite_false, true_and, and_true, eq_self, ne_eq, not_false_eq_true, not_true_eq_false, false_implies, true_implies, and_self, reduceCtorEq, Nat.reduceBEq, Bool.or_false, Bool.false_or, Bool.or_true, Bool.true_or, if1_0, if1_1, if1_01, one_01, zer_01, lg_cmp_ge, lg_cmp_le, lg_cmp_gt, lg_cmp_lt, lg_cmp_eq, Classical.not_not, SHm hS, SHr hS]
  refine ⟨by omega, c_areApart (by omega) ?_⟩
  simp only [D_X11_least, N_X11_least, ↓reduceIte, vcS, vcC, vcI, gtF, ptF, inS, inV, fv0, fv1, fv2, fv3, fw0, fw1, lg_0, lg_1, lg_2, lg_3, lg_4, lg_5, lg_6, lg_7, lg_8, lg_9, lg_10, lg_11, lg_12, lg_13, lg_14, lsq_0, lsl_0, lsq_1, lsl_1, lsq_2, lsl_2, lsq_3, lsl_3, lsq_4, lsl_4, lsq_5, lsl_5, lsq_6, lsl_6, lsq_7, lsl_7, lsq_8, lsl_8, lsq_9, lsl_9, lsq_10, lsl_10, lsq_11, lsl_11, lsq_12, lsl_12, lsq_13, lsl_13, lsq_14, lsl_14, tk_0, tk_1, tk_2, tk_3, tk_4, tk_5, tk_6, tk_7, tk_8, cs_n, cs_i, cs_l, cs_r, cs_u, nl, rt_s, rt_n, CST1, Nat.reduceAdd, Nat.reduceLeDiff, va_rf, rtOk, Bool.false_eq_true, Bool.true_eq_false, if_false, if_true, ite_true, ite_false, true_and, and_true, eq_self, ne_eq, not_false_eq_true, not_true_eq_false, false_implies, true_implies, and_self, reduceCtorEq, Nat.reduceBEq, Bool.or_false, Bool.false_or, Bool.or_true, Bool.true_or, if1_0, if1_1, if1_01, one_01, zer_01, lg_cmp_ge, lg_cmp_le, lg_cmp_gt, lg_cmp_lt, lg_cmp_eq, Classical.not_not, SHm hS, SHr hS]
  refine ⟨fun q => hk1 (fun z => q z.1), fun q => ⟨by omega, c_isIn ?_⟩⟩
  simp only [D_X11_least, N_X11_least, ↓reduceIte, vcS, vcC, vcI, gtF, ptF, inS, inV, fv0, fv1, fv2, fv3, fw0, fw1, lg_0, lg_1, lg_2, lg_3, lg_4, lg_5, lg_6, lg_7, lg_8, lg_9, lg_10, lg_11, lg_12, lg_13, lg_14, lsq_0, lsl_0, lsq_1, lsl_1, lsq_2, lsl_2, lsq_3, lsl_3, lsq_4, lsl_4, lsq_5, lsl_5, lsq_6, lsl_6, lsq_7, lsl_7, lsq_8, lsl_8, lsq_9, lsl_9, lsq_10, lsl_10, lsq_11, lsl_11, lsq_12, lsl_12, lsq_13, lsl_13, lsq_14, lsl_14, tk_0, tk_1, tk_2, tk_3, tk_4, tk_5, tk_6, tk_7, tk_8, cs_n, cs_i, cs_l, cs_r, cs_u, nl, rt_s, rt_n, CST1, Nat.reduceAdd, Nat.reduceLeDiff, va_rf, rtOk, Bool.false_eq_true, Bool.true_eq_false, if_false, if_true, ite_true, ite_false, true_and, and_true, eq_self, ne_eq, not_false_eq_true, not_true_eq_false, false_implies, true_implies, and_self, reduceCtorEq, Nat.reduceBEq, Bool.or_false, Bool.false_or, Bool.or_true, Bool.true_or, if1_0, if1_1, if1_01, one_01, zer_01, lg_cmp_ge, lg_cmp_le, lg_cmp_gt, lg_cmp_lt, lg_cmp_eq, Classical.not_not, SHm hS, SHr hS, LIT1]
  refine ⟨fun q2 => ?_, fun q2 => hk1 (fun z => q2 z.2)⟩
  have hk3 := hk2 q q2
  have ra := ap_rw q.1
  have rb := ap_rw q.2.1
  obtain ⟨ok, hok⟩ : ∃ ok, ok = ltO R P D dA dB S (bt a) (bt b) := ⟨_, rfl⟩
  obtain ⟨h, hh⟩ : ∃ h, h = ltH R P D dA dB S WA WB N (sg 12) := ⟨_, rfl⟩
  rw [← hok, ← hh] at hk3
  have loop : ∀ (m j : Nat) (σ : aS) (v7 : Value), j + m = 2 ^ D → FSc sg σ → AW G 8 n 0 0 mu ro σ 31 [.ref 0, .int a, .int b, .int y, .int (lbB (lbF ok h j)), .int (lbH (-9) (lbF ok h j)), .int (nI j), v7] [] := by
    intro m
    induction m with
    | zero =>
      intro j σ v7 hj hF
      have h19 : σ 1 9 = nI D := by rw [hF 1 9 (by decide) (by decide) (by decide) (by decide)]; exact hX.2.2.1
      have hc : (nI (2 ^ D) ≤ nI j) = True := eq_true (nI_le (by omega) (by omega))
      have hk4 := hk3 σ hF
      rw [← show j = 2 ^ D by omega] at hk4
      refine hG (fun q => q == 31) 80 _ _ _ _ (Nat.le_of_ble_eq_true rfl) ?_
      simp only [D_X11_least, N_X11_least, ↓reduceIte, vcS, vcC, vcI, gtF, ptF, inS, inV, fv0, fv1, fv2, fv3, fw0, fw1, lg_0, lg_1, lg_2, lg_3, lg_4, lg_5, lg_6, lg_7, lg_8, lg_9, lg_10, lg_11, lg_12, lg_13, lg_14, lsq_0, lsl_0, lsq_1, lsl_1, lsq_2, lsl_2, lsq_3, lsl_3, lsq_4, lsl_4, lsq_5, lsl_5, lsq_6, lsl_6, lsq_7, lsl_7, lsq_8, lsl_8, lsq_9, lsl_9, lsq_10, lsl_10, lsq_11, lsl_11, lsq_12, lsl_12, lsq_13, lsl_13, lsq_14, lsl_14, tk_0, tk_1, tk_2, tk_3, tk_4, tk_5, tk_6, tk_7, tk_8, cs_n, cs_i, cs_l, cs_r, cs_u, nl, rt_s, rt_n, CST1, Nat.reduceAdd, Nat.reduceLeDiff, va_rf, rtOk, Bool.false_eq_true, Bool.true_eq_false, if_false, if_true, ite_true, ite_false, true_and, and_true, eq_self, ne_eq, not_false_eq_true, not_true_eq_false, false_implies, true_implies, and_self, reduceCtorEq, Nat.reduceBEq, Bool.or_false, Bool.false_or, Bool.or_true, Bool.true_or, if1_0, if1_1, if1_01, one_01, zer_01, lg_cmp_ge, lg_cmp_le, lg_cmp_gt, lg_cmp_lt, lg_cmp_eq, Classical.not_not, SHm hS, SHr hS, h19, hs, ↓im_T hc, ↓im_TN hc, hc]
      cases e : lbF ok h j with
      | none =>
        rw [e] at hk4
        exact ⟨fun _ => hk4, fun _ => hk4⟩
      | some p =>
        rw [e] at hk4
        simp only [lbR] at hk4
        refine ⟨fun g => ?_, fun g => ?_⟩
        · rw [if_neg g] at hk4; exact hk4
        · rw [if_pos g] at hk4; exact hk4
    | succ m ih =>
      intro j σ v7 hj hF
      have h19 : σ 1 9 = nI D := by rw [hF 1 9 (by decide) (by decide) (by decide) (by decide)]; exact hX.2.2.1
      have hc : (nI (2 ^ D) ≤ nI j) = False := eq_false (nI_ge (by omega) (by omega))
      have hX' := hF.c hX
      have hj8 := nj_rw (j := j) (by omega)
      have hz : (nI j &&& σ 1 10 = 0) = (anB (fun e => bt (nI j) e && S e) 8 = false) := by
        rw [propext (rw_z (rw_and hj8 hX'.2.2.2.2.1) (by omega))]
        exact propext anB_f.symm
      have no : ok j = false → ∀ σ v7, FSc sg σ → AW G 8 n 0 0 mu ro σ 31 [.ref 0, .int a, .int b, .int y, .int (lbB (lbF ok h j)), .int (lbH (-9) (lbF ok h j)), .int (nI (j + 1)), v7] [] := by
        intro g σ v7 hF
        have := ih (j + 1) σ v7 (by omega) hF
        rw [lb_n g] at this
        exact this
      refine hG (fun q => q == 31) 80 _ _ _ _ (Nat.le_of_ble_eq_true rfl) ?_
      simp only [D_X11_least, N_X11_least, ↓reduceIte, vcS, vcC, vcI, gtF, ptF, inS, inV, fv0, fv1, fv2, fv3, fw0, fw1, lg_0, lg_1, lg_2, lg_3, lg_4, lg_5, lg_6, lg_7, lg_8, lg_9, lg_10, lg_11, lg_12, lg_13, lg_14, lsq_0, lsl_0, lsq_1, lsl_1, lsq_2, lsl_2, lsq_3, lsl_3, lsq_4, lsl_4, lsq_5, lsl_5, lsq_6, lsl_6, lsq_7, lsl_7, lsq_8, lsl_8, lsq_9, lsl_9, lsq_10, lsl_10, lsq_11, lsl_11, lsq_12, lsl_12, lsq_13, lsl_13, lsq_14, lsl_14, tk_0, tk_1, tk_2, tk_3, tk_4, tk_5, tk_6, tk_7, tk_8, cs_n, cs_i, cs_l, cs_r, cs_u, nl, rt_s, rt_n, CST1, Nat.reduceAdd, Nat.reduceLeDiff, va_rf, rtOk, Bool.false_eq_true, Bool.true_eq_false, if_false, if_true, ite_true, ite_false, true_and, and_true, eq_self, ne_eq, not_false_eq_true, not_true_eq_false, false_implies, true_implies, and_self, reduceCtorEq, Nat.reduceBEq, Bool.or_false, Bool.false_or, Bool.or_true, Bool.true_or, if1_0, if1_1, if1_01, one_01, zer_01, lg_cmp_ge, lg_cmp_le, lg_cmp_gt, lg_cmp_lt, lg_cmp_eq, Classical.not_not, SHm hS, SHr hS, h19, hs, ↓im_F hc, ↓im_FN hc, hc, hz, nI_1]
      refine ⟨fun g1 => ⟨by omega, c_openRoads hS hNt hX' hj8 (fun σ1 h1 h2 => ?_)⟩, fun g1 => no (by rw [hok, ltO, show anB (fun e => bt (nI j) e && S e) 8 = true by rw [← Bool.not_eq_false]; exact g1]; rfl) σ _ hF⟩
      have hF1 : FSc sg σ1 := fun x k y1 y2 y3 y4 => by rw [h2 x k y1]; exact hF x k y1 y2 y3 y4
      simp only [D_X11_least, N_X11_least, ↓reduceIte, vcS, vcC, vcI, gtF, ptF, inS, inV, fv0, fv1, fv2, fv3, fw0, fw1, lg_0, lg_1, lg_2, lg_3, lg_4, lg_5, lg_6, lg_7, lg_8, lg_9, lg_10, lg_11, lg_12, lg_13, lg_14, lsq_0, lsl_0, lsq_1, lsl_1, lsq_2, lsl_2, lsq_3, lsl_3, lsq_4, lsl_4, lsq_5, lsl_5, lsq_6, lsl_6, lsq_7, lsl_7, lsq_8, lsl_8, lsq_9, lsl_9, lsq_10, lsl_10, lsq_11, lsl_11, lsq_12, lsl_12, lsq_13, lsl_13, lsq_14, lsl_14, tk_0, tk_1, tk_2, tk_3, tk_4, tk_5, tk_6, tk_7, tk_8, cs_n, cs_i, cs_l, cs_r, cs_u, nl, rt_s, rt_n, CST1, Nat.reduceAdd, Nat.reduceLeDiff, va_rf, rtOk, Bool.false_eq_true, Bool.true_eq_false, if_false, if_true, ite_true, ite_false, true_and, and_true, eq_self, ne_eq, not_false_eq_true, not_true_eq_false, false_implies, true_implies, and_self, reduceCtorEq, Nat.reduceBEq, Bool.or_false, Bool.false_or, Bool.or_true, Bool.true_or, if1_0, if1_1, if1_01, one_01, zer_01, lg_cmp_ge, lg_cmp_le, lg_cmp_gt, lg_cmp_lt, lg_cmp_eq, Classical.not_not, SHm hS, SHr hS]
      refine ⟨by omega, c_parts hS (by omega) h1 ra rb ?_⟩
      by_cases g2 : anB (fun y => stB (opE R P D dA dB (fun e => S e || bt (nI j) e) false) (bt a) 10 y && bt b y) 10 = true
      · rw [if_pos g2]
        simp only [D_X11_least, N_X11_least, ↓reduceIte, vcS, vcC, vcI, gtF, ptF, inS, inV, fv0, fv1, fv2, fv3, fw0, fw1, lg_0, lg_1, lg_2, lg_3, lg_4, lg_5, lg_6, lg_7, lg_8, lg_9, lg_10, lg_11, lg_12, lg_13, lg_14, lsq_0, lsl_0, lsq_1, lsl_1, lsq_2, lsl_2, lsq_3, lsl_3, lsq_4, lsl_4, lsq_5, lsl_5, lsq_6, lsl_6, lsq_7, lsl_7, lsq_8, lsl_8, lsq_9, lsl_9, lsq_10, lsl_10, lsq_11, lsl_11, lsq_12, lsl_12, lsq_13, lsl_13, lsq_14, lsl_14, tk_0, tk_1, tk_2, tk_3, tk_4, tk_5, tk_6, tk_7, tk_8, cs_n, cs_i, cs_l, cs_r, cs_u, nl, rt_s, rt_n, CST1, Nat.reduceAdd, Nat.reduceLeDiff, va_rf, rtOk, Bool.false_eq_true, Bool.true_eq_false, if_false, if_true, ite_true, ite_false, true_and, and_true, eq_self, ne_eq, not_false_eq_true, not_true_eq_false, false_implies, true_implies, and_self, reduceCtorEq, Nat.reduceBEq, Bool.or_false, Bool.false_or, Bool.or_true, Bool.true_or, if1_0, if1_1, if1_01, one_01, zer_01, lg_cmp_ge, lg_cmp_le, lg_cmp_gt, lg_cmp_lt, lg_cmp_eq, Classical.not_not, SHm hS, SHr hS, nI_1]
        exact no (by rw [hok, ltO, g1, Bool.not_false, Bool.true_and, Bool.not_eq_false']; exact g2) σ1 _ hF1
      · rw [if_neg g2]
        have gok : ok j = true := by
          rw [hok, ltO, g1, Bool.not_false, Bool.true_and, Bool.not_eq_true', ← Bool.not_eq_true]
          exact g2
        have o9 : ∀ x k, 9 ≤ x → σ1 x k = sg x k := fun x k hx => hF1 x k (by omega) (by omega) (by omega) (by omega)
        simp only [D_X11_least, N_X11_least, ↓reduceIte, vcS, vcC, vcI, gtF, ptF, inS, inV, fv0, fv1, fv2, fv3, fw0, fw1, lg_0, lg_1, lg_2, lg_3, lg_4, lg_5, lg_6, lg_7, lg_8, lg_9, lg_10, lg_11, lg_12, lg_13, lg_14, lsq_0, lsl_0, lsq_1, lsl_1, lsq_2, lsl_2, lsq_3, lsl_3, lsq_4, lsl_4, lsq_5, lsl_5, lsq_6, lsl_6, lsq_7, lsl_7, lsq_8, lsl_8, lsq_9, lsl_9, lsq_10, lsl_10, lsq_11, lsl_11, lsq_12, lsl_12, lsq_13, lsl_13, lsq_14, lsl_14, tk_0, tk_1, tk_2, tk_3, tk_4, tk_5, tk_6, tk_7, tk_8, cs_n, cs_i, cs_l, cs_r, cs_u, nl, rt_s, rt_n, CST1, Nat.reduceAdd, Nat.reduceLeDiff, va_rf, rtOk, Bool.false_eq_true, Bool.true_eq_false, if_false, if_true, ite_true, ite_false, true_and, and_true, eq_self, ne_eq, not_false_eq_true, not_true_eq_false, false_implies, true_implies, and_self, reduceCtorEq, Nat.reduceBEq, Bool.or_false, Bool.false_or, Bool.or_true, Bool.true_or, if1_0, if1_1, if1_01, one_01, zer_01, lg_cmp_ge, lg_cmp_le, lg_cmp_gt, lg_cmp_lt, lg_cmp_eq, Classical.not_not, SHm hS, SHr hS, z10]
        refine ⟨by omega, c_stoppedIn (WA := WA) (WB := WB) hS (by omega) (by rw [o9 9 3 (by decide)]; exact hN) hN8 (fun j hj => by rw [o9 10 j (by decide), o9 11 j (by decide)]; exact hW j hj) h1 (fun v hv => ?_)⟩
        simp only [D_X11_least, N_X11_least, ↓reduceIte, vcS, vcC, vcI, gtF, ptF, inS, inV, fv0, fv1, fv2, fv3, fw0, fw1, lg_0, lg_1, lg_2, lg_3, lg_4, lg_5, lg_6, lg_7, lg_8, lg_9, lg_10, lg_11, lg_12, lg_13, lg_14, lsq_0, lsl_0, lsq_1, lsl_1, lsq_2, lsl_2, lsq_3, lsl_3, lsq_4, lsl_4, lsq_5, lsl_5, lsq_6, lsl_6, lsq_7, lsl_7, lsq_8, lsl_8, lsq_9, lsl_9, lsq_10, lsl_10, lsq_11, lsl_11, lsq_12, lsl_12, lsq_13, lsl_13, lsq_14, lsl_14, tk_0, tk_1, tk_2, tk_3, tk_4, tk_5, tk_6, tk_7, tk_8, cs_n, cs_i, cs_l, cs_r, cs_u, nl, rt_s, rt_n, CST1, Nat.reduceAdd, Nat.reduceLeDiff, va_rf, rtOk, Bool.false_eq_true, Bool.true_eq_false, if_false, if_true, ite_true, ite_false, true_and, and_true, eq_self, ne_eq, not_false_eq_true, not_true_eq_false, false_implies, true_implies, and_self, reduceCtorEq, Nat.reduceBEq, Bool.or_false, Bool.false_or, Bool.or_true, Bool.true_or, if1_0, if1_1, if1_01, one_01, zer_01, lg_cmp_ge, lg_cmp_le, lg_cmp_gt, lg_cmp_lt, lg_cmp_eq, Classical.not_not, SHm hS, SHr hS]
        refine ⟨by omega, c_weightOf hS (by rw [o9 9 3 (by decide)]; exact hN) hN8 ?_⟩
        have hj9 : smF (σ1 12) v N = h j := by
          rw [show σ1 12 = sg 12 from funext (fun k => o9 12 k (by decide)), smF_G hv N hN8, hh]
          rfl
        rw [hj9]
        cases e : lbF ok h j with
        | none =>
          have n1 := ih (j + 1) σ1 (.int (h j)) (by omega) hF1
          rw [lb_0 gok e] at n1
          have z9 : (lbB none = -9) = True := eq_true rfl
          simp only [D_X11_least, N_X11_least, ↓reduceIte, vcS, vcC, vcI, gtF, ptF, inS, inV, fv0, fv1, fv2, fv3, fw0, fw1, lg_0, lg_1, lg_2, lg_3, lg_4, lg_5, lg_6, lg_7, lg_8, lg_9, lg_10, lg_11, lg_12, lg_13, lg_14, lsq_0, lsl_0, lsq_1, lsl_1, lsq_2, lsl_2, lsq_3, lsl_3, lsq_4, lsl_4, lsq_5, lsl_5, lsq_6, lsl_6, lsq_7, lsl_7, lsq_8, lsl_8, lsq_9, lsl_9, lsq_10, lsl_10, lsq_11, lsl_11, lsq_12, lsl_12, lsq_13, lsl_13, lsq_14, lsl_14, tk_0, tk_1, tk_2, tk_3, tk_4, tk_5, tk_6, tk_7, tk_8, cs_n, cs_i, cs_l, cs_r, cs_u, nl, rt_s, rt_n, CST1, Nat.reduceAdd, Nat.reduceLeDiff, va_rf, rtOk, Bool.false_eq_true, Bool.true_eq_false, if_false, if_true, ite_true, ite_false, true_and, and_true, eq_self, ne_eq, not_false_eq_true, not_true_eq_false, false_implies, true_implies, and_self, reduceCtorEq, Nat.reduceBEq, Bool.or_false, Bool.false_or, Bool.or_true, Bool.true_or, if1_0, if1_1, if1_01, one_01, zer_01, lg_cmp_ge, lg_cmp_le, lg_cmp_gt, lg_cmp_lt, lg_cmp_eq, Classical.not_not, SHm hS, SHr hS, ↓im_T z9, ↓im_TN z9, z9, nI_1]
          exact n1
        | some p =>
          have hp1 := lb_lt j p e
          have e1 : lbB (some p) = nI p.1 := rfl
          have e2 : lbH (-9) (some p) = p.2 := rfl
          have z9 : (nI p.1 = -9) = False := nI_n9 (by omega)
          have yes : (h j < p.2 ∨ (h j = p.2 ∧ pcU j 16 < pcU p.1 16)) → AW G 8 n 0 0 mu ro σ1 31 [.ref 0, .int a, .int b, .int y, .int (nI j), .int (h j), .int (nI (j + 1)), .int (h j)] [] := by
            intro c
            have := ih (j + 1) σ1 (.int (h j)) (by omega) hF1
            rw [lb_y gok e c] at this
            exact this
          have nay : ¬ (h j < p.2 ∨ (h j = p.2 ∧ pcU j 16 < pcU p.1 16)) → AW G 8 n 0 0 mu ro σ1 31 [.ref 0, .int a, .int b, .int y, .int (nI p.1), .int p.2, .int (nI (j + 1)), .int (h j)] [] := by
            intro c
            have := ih (j + 1) σ1 (.int (h j)) (by omega) hF1
            rw [lb_o gok e c] at this
            exact this
          rw [e1, e2]
          simp only [D_X11_least, N_X11_least, ↓reduceIte, vcS, vcC, vcI, gtF, ptF, inS, inV, fv0, fv1, fv2, fv3, fw0, fw1, lg_0, lg_1, lg_2, lg_3, lg_4, lg_5, lg_6, lg_7, lg_8, lg_9, lg_10, lg_11, lg_12, lg_13, lg_14, lsq_0, lsl_0, lsq_1, lsl_1, lsq_2, lsl_2, lsq_3, lsl_3, lsq_4, lsl_4, lsq_5, lsl_5, lsq_6, lsl_6, lsq_7, lsl_7, lsq_8, lsl_8, lsq_9, lsl_9, lsq_10, lsl_10, lsq_11, lsl_11, lsq_12, lsl_12, lsq_13, lsl_13, lsq_14, lsl_14, tk_0, tk_1, tk_2, tk_3, tk_4, tk_5, tk_6, tk_7, tk_8, cs_n, cs_i, cs_l, cs_r, cs_u, nl, rt_s, rt_n, CST1, Nat.reduceAdd, Nat.reduceLeDiff, va_rf, rtOk, Bool.false_eq_true, Bool.true_eq_false, if_false, if_true, ite_true, ite_false, true_and, and_true, eq_self, ne_eq, not_false_eq_true, not_true_eq_false, false_implies, true_implies, and_self, reduceCtorEq, Nat.reduceBEq, Bool.or_false, Bool.false_or, Bool.or_true, Bool.true_or, if1_0, if1_1, if1_01, one_01, zer_01, lg_cmp_ge, lg_cmp_le, lg_cmp_gt, lg_cmp_lt, lg_cmp_eq, Classical.not_not, SHm hS, SHr hS, ↓im_F z9, ↓im_FN z9, z9, nI_1]
          refine ⟨fun c1 => yes (Or.inl c1), fun c1 => ⟨fun c2 => nay (fun z => z.elim c1 (fun u => c2 u.1)), fun c2 => ⟨by omega, c_bitCount (by omega) ?_⟩⟩⟩
          simp only [D_X11_least, N_X11_least, ↓reduceIte, vcS, vcC, vcI, gtF, ptF, inS, inV, fv0, fv1, fv2, fv3, fw0, fw1, lg_0, lg_1, lg_2, lg_3, lg_4, lg_5, lg_6, lg_7, lg_8, lg_9, lg_10, lg_11, lg_12, lg_13, lg_14, lsq_0, lsl_0, lsq_1, lsl_1, lsq_2, lsl_2, lsq_3, lsl_3, lsq_4, lsl_4, lsq_5, lsl_5, lsq_6, lsl_6, lsq_7, lsl_7, lsq_8, lsl_8, lsq_9, lsl_9, lsq_10, lsl_10, lsq_11, lsl_11, lsq_12, lsl_12, lsq_13, lsl_13, lsq_14, lsl_14, tk_0, tk_1, tk_2, tk_3, tk_4, tk_5, tk_6, tk_7, tk_8, cs_n, cs_i, cs_l, cs_r, cs_u, nl, rt_s, rt_n, CST1, Nat.reduceAdd, Nat.reduceLeDiff, va_rf, rtOk, Bool.false_eq_true, Bool.true_eq_false, if_false, if_true, ite_true, ite_false, true_and, and_true, eq_self, ne_eq, not_false_eq_true, not_true_eq_false, false_implies, true_implies, and_self, reduceCtorEq, Nat.reduceBEq, Bool.or_false, Bool.false_or, Bool.or_true, Bool.true_or, if1_0, if1_1, if1_01, one_01, zer_01, lg_cmp_ge, lg_cmp_le, lg_cmp_gt, lg_cmp_lt, lg_cmp_eq, Classical.not_not, SHm hS, SHr hS]
          refine ⟨by omega, c_bitCount (by omega) ?_⟩
          have t1 : (nI (pcU j 16)).toInt = pcU j 16 := nI_toInt (by have := pcU_le j 16; omega)
          have t2 : (nI (pcU p.1 16)).toInt = pcU p.1 16 := nI_toInt (by have := pcU_le p.1 16; omega)
          have cc : (nI (pcU p.1 16) ≤ nI (pcU j 16)) = ¬ pcU j 16 < pcU p.1 16 := propext ⟨fun z => by ((try simp only [i_le, i_lt, i_eq, l_le, l_lt, l_eq, i_ne, l_ne, toL, l_add, l_sub1, LIT1, LIT2, Int.reduceNeg, ge_iff_le, gt_iff_lt] at *); omega), fun z => by ((try simp only [i_le, i_lt, i_eq, l_le, l_lt, l_eq, i_ne, l_ne, toL, l_add, l_sub1, LIT1, LIT2, Int.reduceNeg, ge_iff_le, gt_iff_lt] at *); omega)⟩
          simp only [D_X11_least, N_X11_least, ↓reduceIte, vcS, vcC, vcI, gtF, ptF, inS, inV, fv0, fv1, fv2, fv3, fw0, fw1, lg_0, lg_1, lg_2, lg_3, lg_4, lg_5, lg_6, lg_7, lg_8, lg_9, lg_10, lg_11, lg_12, lg_13, lg_14, lsq_0, lsl_0, lsq_1, lsl_1, lsq_2, lsl_2, lsq_3, lsl_3, lsq_4, lsl_4, lsq_5, lsl_5, lsq_6, lsl_6, lsq_7, lsl_7, lsq_8, lsl_8, lsq_9, lsl_9, lsq_10, lsl_10, lsq_11, lsl_11, lsq_12, lsl_12, lsq_13, lsl_13, lsq_14, lsl_14, tk_0, tk_1, tk_2, tk_3, tk_4, tk_5, tk_6, tk_7, tk_8, cs_n, cs_i, cs_l, cs_r, cs_u, nl, rt_s, rt_n, CST1, Nat.reduceAdd, Nat.reduceLeDiff, va_rf, rtOk, Bool.false_eq_true, Bool.true_eq_false, if_false, if_true, ite_true, ite_false, true_and, and_true, eq_self, ne_eq, not_false_eq_true, not_true_eq_false, false_implies, true_implies, and_self, reduceCtorEq, Nat.reduceBEq, Bool.or_false, Bool.false_or, Bool.or_true, Bool.true_or, if1_0, if1_1, if1_01, one_01, zer_01, lg_cmp_ge, lg_cmp_le, lg_cmp_gt, lg_cmp_lt, lg_cmp_eq, Classical.not_not, SHm hS, SHr hS, cc, nI_1]
          exact ⟨fun c3 => nay (fun z => z.elim c1 (fun u => c3 u.2)), fun c3 => yes (Or.inr ⟨c2, c3⟩)⟩
  exact loop (2 ^ D) 0 sg _ (by omega) (fun _ _ _ _ _ _ => rfl)
set_option maxHeartbeats 4000000 in
set_option maxRecDepth 100000 in
theorem m_least {a b y : Int32} (hS : Sh mu ro) (hd : 4 ≤ d) (hNt : Nt R P D dA dB S) (hM : M_nt sg R P D dA dB S) (hN : sg 48 42 = nI N) (hN8 : N ≤ 8) (hW : ∀ j, j < N → sg 79 j = nI (WA j) ∧ WA j < 10 ∧ sg 80 j = nI (WB j) ∧ WB j < 10) (hk1 : ¬ (okP a b ∧ 0 ≤ y.toInt ∧ y.toInt ≤ 1) → K (some (.int (-2))) sg)
    (hk2 : okP a b → (0 ≤ y.toInt ∧ y.toInt ≤ 1) → ∀ σ, (∀ x k, x ≠ 54 → σ x k = sg x k) → K (some (.int (lbR (lbF (ltO R P D dA dB S (bt a) (bt b)) (ltH R P D dA dB S WA WB N (sg 81)) (2 ^ D)) y))) σ) : aCall d 231 [.ref 48, .int a, .int b, .int y] n mu ro sg K := by
  have hD8 := hNt.1
  have hp := (dr_p D (by omega)).1
  have hs := dr_s D (by omega)
  refine aCall_start (mL := 8) (cc := cX12_least) (o := 12) (ret := (some .int)) 4 (by decide) (by decide +kernel) rfl rfl rfl rfl (Nat.le_of_ble_eq_true rfl) (fun G hC hG => ?_)
  simp only [exL, List.cons_append, List.nil_append, rp_0, rp_1, rp_2, rp_3, rp_4, rp_5, rp_6, rp_7, rp_8, rp_9, rp_10, rp_11, List.append_nil]
  refine hG (fun q => q == 31) 80 _ _ _ _ (Nat.le_of_ble_eq_true rfl) ?_
  simp only [D_X12_least, N_X12_least, ↓reduceIte, vcS, vcC, vcI, gtF, ptF, inS, inV, fv0, fv1, fv2, fv3, fw0, fw1, lg_0, lg_1, lg_2, lg_3, lg_4, lg_5, lg_6, lg_7, lg_8, lg_9, lg_10, lg_11, lg_12, lg_13, lg_14, lsq_0, lsl_0, lsq_1, lsl_1, lsq_2, lsl_2, lsq_3, lsl_3, lsq_4, lsl_4, lsq_5, lsl_5, lsq_6, lsl_6, lsq_7, lsl_7, lsq_8, lsl_8, lsq_9, lsl_9, lsq_10, lsl_10, lsq_11, lsl_11, lsq_12, lsl_12, lsq_13, lsl_13, lsq_14, lsl_14, tk_0, tk_1, tk_2, tk_3, tk_4, tk_5, tk_6, tk_7, tk_8, cs_n, cs_i, cs_l, cs_r, cs_u, nl, rt_s, rt_n, CST1, Nat.reduceAdd, Nat.reduceLeDiff, va_rf, rtOk, Bool.false_eq_true, Bool.true_eq_false, if_false, if_true, ite_true, ite_false, true_and, and_true, eq_self, ne_eq, not_false_eq_true, not_true_eq_false, false_implies, true_implies, and_self, reduceCtorEq, Nat.reduceBEq, Bool.or_false, Bool.false_or, Bool.or_true, Bool.true_or, if1_0, if1_1, if1_01, one_01, zer_01, lg_cmp_ge, lg_cmp_le, lg_cmp_gt, lg_cmp_lt, lg_cmp_eq, Classical.not_not, SHm hS, SHr hS]
  refine ⟨by omega, m_areApart (by omega) ?_⟩
  simp only [D_X12_least, N_X12_least, ↓reduceIte, vcS, vcC, vcI, gtF, ptF, inS, inV, fv0, fv1, fv2, fv3, fw0, fw1, lg_0, lg_1, lg_2, lg_3, lg_4, lg_5, lg_6, lg_7, lg_8, lg_9, lg_10, lg_11, lg_12, lg_13, lg_14, lsq_0, lsl_0, lsq_1, lsl_1, lsq_2, lsl_2, lsq_3, lsl_3, lsq_4, lsl_4, lsq_5, lsl_5, lsq_6, lsl_6, lsq_7, lsl_7, lsq_8, lsl_8, lsq_9, lsl_9, lsq_10, lsl_10, lsq_11, lsl_11, lsq_12, lsl_12, lsq_13, lsl_13, lsq_14, lsl_14, tk_0, tk_1, tk_2, tk_3, tk_4, tk_5, tk_6, tk_7, tk_8, cs_n, cs_i, cs_l, cs_r, cs_u, nl, rt_s, rt_n, CST1, Nat.reduceAdd, Nat.reduceLeDiff, va_rf, rtOk, Bool.false_eq_true, Bool.true_eq_false, if_false, if_true, ite_true, ite_false, true_and, and_true, eq_self, ne_eq, not_false_eq_true, not_true_eq_false, false_implies, true_implies, and_self, reduceCtorEq, Nat.reduceBEq, Bool.or_false, Bool.false_or, Bool.or_true, Bool.true_or, if1_0, if1_1, if1_01, one_01, zer_01, lg_cmp_ge, lg_cmp_le, lg_cmp_gt, lg_cmp_lt, lg_cmp_eq, Classical.not_not, SHm hS, SHr hS]
  refine ⟨fun q => hk1 (fun z => q z.1), fun q => ⟨by omega, m_in ?_⟩⟩
  simp only [D_X12_least, N_X12_least, ↓reduceIte, vcS, vcC, vcI, gtF, ptF, inS, inV, fv0, fv1, fv2, fv3, fw0, fw1, lg_0, lg_1, lg_2, lg_3, lg_4, lg_5, lg_6, lg_7, lg_8, lg_9, lg_10, lg_11, lg_12, lg_13, lg_14, lsq_0, lsl_0, lsq_1, lsl_1, lsq_2, lsl_2, lsq_3, lsl_3, lsq_4, lsl_4, lsq_5, lsl_5, lsq_6, lsl_6, lsq_7, lsl_7, lsq_8, lsl_8, lsq_9, lsl_9, lsq_10, lsl_10, lsq_11, lsl_11, lsq_12, lsl_12, lsq_13, lsl_13, lsq_14, lsl_14, tk_0, tk_1, tk_2, tk_3, tk_4, tk_5, tk_6, tk_7, tk_8, cs_n, cs_i, cs_l, cs_r, cs_u, nl, rt_s, rt_n, CST1, Nat.reduceAdd, Nat.reduceLeDiff, va_rf, rtOk, Bool.false_eq_true, Bool.true_eq_false, if_false, if_true, ite_true, ite_false, true_and, and_true, eq_self, ne_eq, not_false_eq_true, not_true_eq_false, false_implies, true_implies, and_self, reduceCtorEq, Nat.reduceBEq, Bool.or_false, Bool.false_or, Bool.or_true, Bool.true_or, if1_0, if1_1, if1_01, one_01, zer_01, lg_cmp_ge, lg_cmp_le, lg_cmp_gt, lg_cmp_lt, lg_cmp_eq, Classical.not_not, SHm hS, SHr hS, LIT2, toL]
  refine ⟨fun q2 => ?_, fun q2 => hk1 (fun z => q2 z.2)⟩
  have hk3 := hk2 q q2
  have ra := ap_rw q.1
  have rb := ap_rw q.2.1
  obtain ⟨ok, hok⟩ : ∃ ok, ok = ltO R P D dA dB S (bt a) (bt b) := ⟨_, rfl⟩
  obtain ⟨h, hh⟩ : ∃ h, h = ltH R P D dA dB S WA WB N (sg 81) := ⟨_, rfl⟩
  rw [← hok, ← hh] at hk3
  have loop : ∀ (m j : Nat) (σ : aS) (v7 : Value), j + m = 2 ^ D → (∀ x k, x ≠ 54 → σ x k = sg x k) → AW G 8 n 0 0 mu ro σ 31 [.ref 48, .int a, .int b, .int y, .int (lbB (lbF ok h j)), .int (lbH 0 (lbF ok h j)), .int (nI j), v7] [] := by
    intro m
    induction m with
    | zero =>
      intro j σ v7 hj hF
      have h19 : σ 48 4 = nI D := by rw [hF 48 4 (by decide)]; exact hM.2.2.1
      have hc : (nI (2 ^ D) ≤ nI j) = True := eq_true (nI_le (by omega) (by omega))
      have hk4 := hk3 σ hF
      rw [← show j = 2 ^ D by omega] at hk4
      cases e : lbF ok h j with
      | none =>
        rw [e] at hk4
        have z9 : (0 ≤ lbB none) = False := eq_false (by decide)
        refine hG (fun q => q == 31) 80 _ _ _ _ (Nat.le_of_ble_eq_true rfl) ?_
        simp only [D_X12_least, N_X12_least, ↓reduceIte, vcS, vcC, vcI, gtF, ptF, inS, inV, fv0, fv1, fv2, fv3, fw0, fw1, lg_0, lg_1, lg_2, lg_3, lg_4, lg_5, lg_6, lg_7, lg_8, lg_9, lg_10, lg_11, lg_12, lg_13, lg_14, lsq_0, lsl_0, lsq_1, lsl_1, lsq_2, lsl_2, lsq_3, lsl_3, lsq_4, lsl_4, lsq_5, lsl_5, lsq_6, lsl_6, lsq_7, lsl_7, lsq_8, lsl_8, lsq_9, lsl_9, lsq_10, lsl_10, lsq_11, lsl_11, lsq_12, lsl_12, lsq_13, lsl_13, lsq_14, lsl_14, tk_0, tk_1, tk_2, tk_3, tk_4, tk_5, tk_6, tk_7, tk_8, cs_n, cs_i, cs_l, cs_r, cs_u, nl, rt_s, rt_n, CST1, Nat.reduceAdd, Nat.reduceLeDiff, va_rf, rtOk, Bool.false_eq_true, Bool.true_eq_false, if_false, if_true, ite_true, ite_false, true_and, and_true, eq_self, ne_eq, not_false_eq_true, not_true_eq_false, false_implies, true_implies, and_self, reduceCtorEq, Nat.reduceBEq, Bool.or_false, Bool.false_or, Bool.or_true, Bool.true_or, if1_0, if1_1, if1_01, one_01, zer_01, lg_cmp_ge, lg_cmp_le, lg_cmp_gt, lg_cmp_lt, lg_cmp_eq, Classical.not_not, SHm hS, SHr hS, h19, hs, ↓im_T hc, ↓im_TN hc, hc, ↓im_F z9, ↓im_FN z9, z9]
        exact hk4
      | some p =>
        rw [e] at hk4
        have hp1 := lb_lt j p e
        have e1 : lbB (some p) = nI p.1 := rfl
        have e2 : lbH 0 (some p) = p.2 := rfl
        have z9 : (0 ≤ nI p.1) = True := nI_ge0 (by omega)
        simp only [lbR] at hk4
        rw [e1, e2]
        refine hG (fun q => q == 31) 80 _ _ _ _ (Nat.le_of_ble_eq_true rfl) ?_
        simp only [D_X12_least, N_X12_least, ↓reduceIte, vcS, vcC, vcI, gtF, ptF, inS, inV, fv0, fv1, fv2, fv3, fw0, fw1, lg_0, lg_1, lg_2, lg_3, lg_4, lg_5, lg_6, lg_7, lg_8, lg_9, lg_10, lg_11, lg_12, lg_13, lg_14, lsq_0, lsl_0, lsq_1, lsl_1, lsq_2, lsl_2, lsq_3, lsl_3, lsq_4, lsl_4, lsq_5, lsl_5, lsq_6, lsl_6, lsq_7, lsl_7, lsq_8, lsl_8, lsq_9, lsl_9, lsq_10, lsl_10, lsq_11, lsl_11, lsq_12, lsl_12, lsq_13, lsl_13, lsq_14, lsl_14, tk_0, tk_1, tk_2, tk_3, tk_4, tk_5, tk_6, tk_7, tk_8, cs_n, cs_i, cs_l, cs_r, cs_u, nl, rt_s, rt_n, CST1, Nat.reduceAdd, Nat.reduceLeDiff, va_rf, rtOk, Bool.false_eq_true, Bool.true_eq_false, if_false, if_true, ite_true, ite_false, true_and, and_true, eq_self, ne_eq, not_false_eq_true, not_true_eq_false, false_implies, true_implies, and_self, reduceCtorEq, Nat.reduceBEq, Bool.or_false, Bool.false_or, Bool.or_true, Bool.true_or, if1_0, if1_1, if1_01, one_01, zer_01, lg_cmp_ge, lg_cmp_le, lg_cmp_gt, lg_cmp_lt, lg_cmp_eq, Classical.not_not, SHm hS, SHr hS, h19, hs, ↓im_T hc, ↓im_TN hc, hc, ↓im_T z9, ↓im_TN z9, z9]
        refine ⟨fun g => ?_, fun g => ?_⟩
        · rw [if_neg g] at hk4; exact hk4
        · rw [if_pos g] at hk4; exact hk4
    | succ m ih =>
      intro j σ v7 hj hF
      have h19 : σ 48 4 = nI D := by rw [hF 48 4 (by decide)]; exact hM.2.2.1
      have hc : (nI (2 ^ D) ≤ nI j) = False := eq_false (nI_ge (by omega) (by omega))
      have hM' := FM54 hF hM
      have hj8 := nj_rw (j := j) (by omega)
      have hz : (nI j &&& σ 48 7 = 0) = (anB (fun e => bt (nI j) e && S e) 8 = false) := by
        rw [propext (rw_z (rw_and hj8 hM'.2.2.2.2.1) (by omega))]
        exact propext anB_f.symm
      have hsh := rw_or hM'.2.2.2.2.1 hj8
      have no : ok j = false → ∀ σ v7, (∀ x k, x ≠ 54 → σ x k = sg x k) → AW G 8 n 0 0 mu ro σ 31 [.ref 48, .int a, .int b, .int y, .int (lbB (lbF ok h j)), .int (lbH 0 (lbF ok h j)), .int (nI (j + 1)), v7] [] := by
        intro g σ v7 hF
        have := ih (j + 1) σ v7 (by omega) hF
        rw [lb_n g] at this
        exact this
      refine hG (fun q => q == 31) 80 _ _ _ _ (Nat.le_of_ble_eq_true rfl) ?_
      simp only [D_X12_least, N_X12_least, ↓reduceIte, vcS, vcC, vcI, gtF, ptF, inS, inV, fv0, fv1, fv2, fv3, fw0, fw1, lg_0, lg_1, lg_2, lg_3, lg_4, lg_5, lg_6, lg_7, lg_8, lg_9, lg_10, lg_11, lg_12, lg_13, lg_14, lsq_0, lsl_0, lsq_1, lsl_1, lsq_2, lsl_2, lsq_3, lsl_3, lsq_4, lsl_4, lsq_5, lsl_5, lsq_6, lsl_6, lsq_7, lsl_7, lsq_8, lsl_8, lsq_9, lsl_9, lsq_10, lsl_10, lsq_11, lsl_11, lsq_12, lsl_12, lsq_13, lsl_13, lsq_14, lsl_14, tk_0, tk_1, tk_2, tk_3, tk_4, tk_5, tk_6, tk_7, tk_8, cs_n, cs_i, cs_l, cs_r, cs_u, nl, rt_s, rt_n, CST1, Nat.reduceAdd, Nat.reduceLeDiff, va_rf, rtOk, Bool.false_eq_true, Bool.true_eq_false, if_false, if_true, ite_true, ite_false, true_and, and_true, eq_self, ne_eq, not_false_eq_true, not_true_eq_false, false_implies, true_implies, and_self, reduceCtorEq, Nat.reduceBEq, Bool.or_false, Bool.false_or, Bool.or_true, Bool.true_or, if1_0, if1_1, if1_01, one_01, zer_01, lg_cmp_ge, lg_cmp_le, lg_cmp_gt, lg_cmp_lt, lg_cmp_eq, Classical.not_not, SHm hS, SHr hS, h19, hs, ↓im_F hc, ↓im_FN hc, hc, hz, nI_1]
      refine ⟨fun g1 => no (by rw [hok, ltO, show anB (fun e => bt (nI j) e && S e) 8 = true by rw [← Bool.not_eq_false]; exact g1]; rfl) σ _ hF, fun g1 => ⟨by omega, m_areParted hS (by omega) hNt hM' hsh ra rb (fun σ1 h2 => ?_)⟩⟩
      have hF1 : ∀ x k, x ≠ 54 → σ1 x k = sg x k := fun x k hx => by rw [h2 x k hx]; exact hF x k hx
      by_cases g2 : anB (fun y => stB (opE R P D dA dB (fun e => S e || bt (nI j) e) false) (bt a) 10 y && bt b y) 10 = true
      · rw [if_pos g2]
        simp only [D_X12_least, N_X12_least, ↓reduceIte, vcS, vcC, vcI, gtF, ptF, inS, inV, fv0, fv1, fv2, fv3, fw0, fw1, lg_0, lg_1, lg_2, lg_3, lg_4, lg_5, lg_6, lg_7, lg_8, lg_9, lg_10, lg_11, lg_12, lg_13, lg_14, lsq_0, lsl_0, lsq_1, lsl_1, lsq_2, lsl_2, lsq_3, lsl_3, lsq_4, lsl_4, lsq_5, lsl_5, lsq_6, lsl_6, lsq_7, lsl_7, lsq_8, lsl_8, lsq_9, lsl_9, lsq_10, lsl_10, lsq_11, lsl_11, lsq_12, lsl_12, lsq_13, lsl_13, lsq_14, lsl_14, tk_0, tk_1, tk_2, tk_3, tk_4, tk_5, tk_6, tk_7, tk_8, cs_n, cs_i, cs_l, cs_r, cs_u, nl, rt_s, rt_n, CST1, Nat.reduceAdd, Nat.reduceLeDiff, va_rf, rtOk, Bool.false_eq_true, Bool.true_eq_false, if_false, if_true, ite_true, ite_false, true_and, and_true, eq_self, ne_eq, not_false_eq_true, not_true_eq_false, false_implies, true_implies, and_self, reduceCtorEq, Nat.reduceBEq, Bool.or_false, Bool.false_or, Bool.or_true, Bool.true_or, if1_0, if1_1, if1_01, one_01, zer_01, lg_cmp_ge, lg_cmp_le, lg_cmp_gt, lg_cmp_lt, lg_cmp_eq, Classical.not_not, SHm hS, SHr hS, nI_1]
        exact no (by rw [hok, ltO, g1, Bool.not_false, Bool.true_and, Bool.not_eq_false']; exact g2) σ1 _ hF1
      · rw [if_neg g2]
        have gok : ok j = true := by
          rw [hok, ltO, g1, Bool.not_false, Bool.true_and, Bool.not_eq_true', ← Bool.not_eq_true]
          exact g2
        have h7 : σ1 48 7 = σ 48 7 := h2 48 7 (by decide)
        simp only [D_X12_least, N_X12_least, ↓reduceIte, vcS, vcC, vcI, gtF, ptF, inS, inV, fv0, fv1, fv2, fv3, fw0, fw1, lg_0, lg_1, lg_2, lg_3, lg_4, lg_5, lg_6, lg_7, lg_8, lg_9, lg_10, lg_11, lg_12, lg_13, lg_14, lsq_0, lsl_0, lsq_1, lsl_1, lsq_2, lsl_2, lsq_3, lsl_3, lsq_4, lsl_4, lsq_5, lsl_5, lsq_6, lsl_6, lsq_7, lsl_7, lsq_8, lsl_8, lsq_9, lsl_9, lsq_10, lsl_10, lsq_11, lsl_11, lsq_12, lsl_12, lsq_13, lsl_13, lsq_14, lsl_14, tk_0, tk_1, tk_2, tk_3, tk_4, tk_5, tk_6, tk_7, tk_8, cs_n, cs_i, cs_l, cs_r, cs_u, nl, rt_s, rt_n, CST1, Nat.reduceAdd, Nat.reduceLeDiff, va_rf, rtOk, Bool.false_eq_true, Bool.true_eq_false, if_false, if_true, ite_true, ite_false, true_and, and_true, eq_self, ne_eq, not_false_eq_true, not_true_eq_false, false_implies, true_implies, and_self, reduceCtorEq, Nat.reduceBEq, Bool.or_false, Bool.false_or, Bool.or_true, Bool.true_or, if1_0, if1_1, if1_01, one_01, zer_01, lg_cmp_ge, lg_cmp_le, lg_cmp_gt, lg_cmp_lt, lg_cmp_eq, Classical.not_not, SHm hS, SHr hS, z10, h7]
        refine ⟨by omega, m_stillBy (WA := WA) (WB := WB) hS (by omega) hNt (FM54 hF1 hM) hsh (by rw [hF1 48 42 (by decide)]; exact hN) hN8 (fun j hj => by rw [hF1 79 j (by decide), hF1 80 j (by decide)]; exact hW j hj) (fun v σ2 hv h3 => ?_)⟩
        have hF2 : ∀ x k, x ≠ 54 → σ2 x k = sg x k := fun x k hx => by rw [h3 x k hx]; exact hF1 x k hx
        simp only [D_X12_least, N_X12_least, ↓reduceIte, vcS, vcC, vcI, gtF, ptF, inS, inV, fv0, fv1, fv2, fv3, fw0, fw1, lg_0, lg_1, lg_2, lg_3, lg_4, lg_5, lg_6, lg_7, lg_8, lg_9, lg_10, lg_11, lg_12, lg_13, lg_14, lsq_0, lsl_0, lsq_1, lsl_1, lsq_2, lsl_2, lsq_3, lsl_3, lsq_4, lsl_4, lsq_5, lsl_5, lsq_6, lsl_6, lsq_7, lsl_7, lsq_8, lsl_8, lsq_9, lsl_9, lsq_10, lsl_10, lsq_11, lsl_11, lsq_12, lsl_12, lsq_13, lsl_13, lsq_14, lsl_14, tk_0, tk_1, tk_2, tk_3, tk_4, tk_5, tk_6, tk_7, tk_8, cs_n, cs_i, cs_l, cs_r, cs_u, nl, rt_s, rt_n, CST1, Nat.reduceAdd, Nat.reduceLeDiff, va_rf, rtOk, Bool.false_eq_true, Bool.true_eq_false, if_false, if_true, ite_true, ite_false, true_and, and_true, eq_self, ne_eq, not_false_eq_true, not_true_eq_false, false_implies, true_implies, and_self, reduceCtorEq, Nat.reduceBEq, Bool.or_false, Bool.false_or, Bool.or_true, Bool.true_or, if1_0, if1_1, if1_01, one_01, zer_01, lg_cmp_ge, lg_cmp_le, lg_cmp_gt, lg_cmp_lt, lg_cmp_eq, Classical.not_not, SHm hS, SHr hS]
        refine ⟨by omega, m_harmOf hS (by omega) (by rw [hF2 48 42 (by decide)]; exact hN) hN8 ?_⟩
        have hj9 : smF (σ2 81) v N = h j := by
          rw [show σ2 81 = sg 81 from funext (fun k => hF2 81 k (by decide)), smF_G hv N hN8, hh]
          rfl
        rw [hj9]
        cases e : lbF ok h j with
        | none =>
          have n1 := ih (j + 1) σ2 (.int (h j)) (by omega) hF2
          rw [lb_0 gok e] at n1
          have z9 : (lbB none < 0) = True := eq_true (by decide)
          simp only [D_X12_least, N_X12_least, ↓reduceIte, vcS, vcC, vcI, gtF, ptF, inS, inV, fv0, fv1, fv2, fv3, fw0, fw1, lg_0, lg_1, lg_2, lg_3, lg_4, lg_5, lg_6, lg_7, lg_8, lg_9, lg_10, lg_11, lg_12, lg_13, lg_14, lsq_0, lsl_0, lsq_1, lsl_1, lsq_2, lsl_2, lsq_3, lsl_3, lsq_4, lsl_4, lsq_5, lsl_5, lsq_6, lsl_6, lsq_7, lsl_7, lsq_8, lsl_8, lsq_9, lsl_9, lsq_10, lsl_10, lsq_11, lsl_11, lsq_12, lsl_12, lsq_13, lsl_13, lsq_14, lsl_14, tk_0, tk_1, tk_2, tk_3, tk_4, tk_5, tk_6, tk_7, tk_8, cs_n, cs_i, cs_l, cs_r, cs_u, nl, rt_s, rt_n, CST1, Nat.reduceAdd, Nat.reduceLeDiff, va_rf, rtOk, Bool.false_eq_true, Bool.true_eq_false, if_false, if_true, ite_true, ite_false, true_and, and_true, eq_self, ne_eq, not_false_eq_true, not_true_eq_false, false_implies, true_implies, and_self, reduceCtorEq, Nat.reduceBEq, Bool.or_false, Bool.false_or, Bool.or_true, Bool.true_or, if1_0, if1_1, if1_01, one_01, zer_01, lg_cmp_ge, lg_cmp_le, lg_cmp_gt, lg_cmp_lt, lg_cmp_eq, Classical.not_not, SHm hS, SHr hS, ↓im_T z9, ↓im_TN z9, z9, nI_1]
          exact n1
        | some p =>
          have hp1 := lb_lt j p e
          have e1 : lbB (some p) = nI p.1 := rfl
          have e2 : lbH 0 (some p) = p.2 := rfl
          have z9 : (nI p.1 < 0) = False := nI_lt0 (by omega)
          have yes : (h j < p.2 ∨ (h j = p.2 ∧ pcU j 16 < pcU p.1 16)) → AW G 8 n 0 0 mu ro σ2 31 [.ref 48, .int a, .int b, .int y, .int (nI j), .int (h j), .int (nI (j + 1)), .int (h j)] [] := by
            intro c
            have := ih (j + 1) σ2 (.int (h j)) (by omega) hF2
            rw [lb_y gok e c] at this
            exact this
          have nay : ¬ (h j < p.2 ∨ (h j = p.2 ∧ pcU j 16 < pcU p.1 16)) → AW G 8 n 0 0 mu ro σ2 31 [.ref 48, .int a, .int b, .int y, .int (nI p.1), .int p.2, .int (nI (j + 1)), .int (h j)] [] := by
            intro c
            have := ih (j + 1) σ2 (.int (h j)) (by omega) hF2
            rw [lb_o gok e c] at this
            exact this
          rw [e1, e2]
          simp only [D_X12_least, N_X12_least, ↓reduceIte, vcS, vcC, vcI, gtF, ptF, inS, inV, fv0, fv1, fv2, fv3, fw0, fw1, lg_0, lg_1, lg_2, lg_3, lg_4, lg_5, lg_6, lg_7, lg_8, lg_9, lg_10, lg_11, lg_12, lg_13, lg_14, lsq_0, lsl_0, lsq_1, lsl_1, lsq_2, lsl_2, lsq_3, lsl_3, lsq_4, lsl_4, lsq_5, lsl_5, lsq_6, lsl_6, lsq_7, lsl_7, lsq_8, lsl_8, lsq_9, lsl_9, lsq_10, lsl_10, lsq_11, lsl_11, lsq_12, lsl_12, lsq_13, lsl_13, lsq_14, lsl_14, tk_0, tk_1, tk_2, tk_3, tk_4, tk_5, tk_6, tk_7, tk_8, cs_n, cs_i, cs_l, cs_r, cs_u, nl, rt_s, rt_n, CST1, Nat.reduceAdd, Nat.reduceLeDiff, va_rf, rtOk, Bool.false_eq_true, Bool.true_eq_false, if_false, if_true, ite_true, ite_false, true_and, and_true, eq_self, ne_eq, not_false_eq_true, not_true_eq_false, false_implies, true_implies, and_self, reduceCtorEq, Nat.reduceBEq, Bool.or_false, Bool.false_or, Bool.or_true, Bool.true_or, if1_0, if1_1, if1_01, one_01, zer_01, lg_cmp_ge, lg_cmp_le, lg_cmp_gt, lg_cmp_lt, lg_cmp_eq, Classical.not_not, SHm hS, SHr hS, ↓im_F z9, ↓im_FN z9, z9, nI_1]
          refine ⟨fun c1 => yes (Or.inl c1), fun c1 => ⟨fun c2 => nay (fun z => z.elim c1 (fun u => c2 u.1)), fun c2 => ⟨by omega, m_bits (by omega) ?_⟩⟩⟩
          simp only [D_X12_least, N_X12_least, ↓reduceIte, vcS, vcC, vcI, gtF, ptF, inS, inV, fv0, fv1, fv2, fv3, fw0, fw1, lg_0, lg_1, lg_2, lg_3, lg_4, lg_5, lg_6, lg_7, lg_8, lg_9, lg_10, lg_11, lg_12, lg_13, lg_14, lsq_0, lsl_0, lsq_1, lsl_1, lsq_2, lsl_2, lsq_3, lsl_3, lsq_4, lsl_4, lsq_5, lsl_5, lsq_6, lsl_6, lsq_7, lsl_7, lsq_8, lsl_8, lsq_9, lsl_9, lsq_10, lsl_10, lsq_11, lsl_11, lsq_12, lsl_12, lsq_13, lsl_13, lsq_14, lsl_14, tk_0, tk_1, tk_2, tk_3, tk_4, tk_5, tk_6, tk_7, tk_8, cs_n, cs_i, cs_l, cs_r, cs_u, nl, rt_s, rt_n, CST1, Nat.reduceAdd, Nat.reduceLeDiff, va_rf, rtOk, Bool.false_eq_true, Bool.true_eq_false, if_false, if_true, ite_true, ite_false, true_and, and_true, eq_self, ne_eq, not_false_eq_true, not_true_eq_false, false_implies, true_implies, and_self, reduceCtorEq, Nat.reduceBEq, Bool.or_false, Bool.false_or, Bool.or_true, Bool.true_or, if1_0, if1_1, if1_01, one_01, zer_01, lg_cmp_ge, lg_cmp_le, lg_cmp_gt, lg_cmp_lt, lg_cmp_eq, Classical.not_not, SHm hS, SHr hS]
          refine ⟨by omega, m_bits (by omega) ?_⟩
          have t1 : (nI (pcU j 16)).toInt = pcU j 16 := nI_toInt (by have := pcU_le j 16; omega)
          have t2 : (nI (pcU p.1 16)).toInt = pcU p.1 16 := nI_toInt (by have := pcU_le p.1 16; omega)
          have cc : (nI (pcU p.1 16) ≤ nI (pcU j 16)) = ¬ pcU j 16 < pcU p.1 16 := propext ⟨fun z => by ((try simp only [i_le, i_lt, i_eq, l_le, l_lt, l_eq, i_ne, l_ne, toL, l_add, l_sub1, LIT1, LIT2, Int.reduceNeg, ge_iff_le, gt_iff_lt] at *); omega), fun z => by ((try simp only [i_le, i_lt, i_eq, l_le, l_lt, l_eq, i_ne, l_ne, toL, l_add, l_sub1, LIT1, LIT2, Int.reduceNeg, ge_iff_le, gt_iff_lt] at *); omega)⟩
          simp only [D_X12_least, N_X12_least, ↓reduceIte, vcS, vcC, vcI, gtF, ptF, inS, inV, fv0, fv1, fv2, fv3, fw0, fw1, lg_0, lg_1, lg_2, lg_3, lg_4, lg_5, lg_6, lg_7, lg_8, lg_9, lg_10, lg_11, lg_12, lg_13, lg_14, lsq_0, lsl_0, lsq_1, lsl_1, lsq_2, lsl_2, lsq_3, lsl_3, lsq_4, lsl_4, lsq_5, lsl_5, lsq_6, lsl_6, lsq_7, lsl_7, lsq_8, lsl_8, lsq_9, lsl_9, lsq_10, lsl_10, lsq_11, lsl_11, lsq_12, lsl_12, lsq_13, lsl_13, lsq_14, lsl_14, tk_0, tk_1, tk_2, tk_3, tk_4, tk_5, tk_6, tk_7, tk_8, cs_n, cs_i, cs_l, cs_r, cs_u, nl, rt_s, rt_n, CST1, Nat.reduceAdd, Nat.reduceLeDiff, va_rf, rtOk, Bool.false_eq_true, Bool.true_eq_false, if_false, if_true, ite_true, ite_false, true_and, and_true, eq_self, ne_eq, not_false_eq_true, not_true_eq_false, false_implies, true_implies, and_self, reduceCtorEq, Nat.reduceBEq, Bool.or_false, Bool.false_or, Bool.or_true, Bool.true_or, if1_0, if1_1, if1_01, one_01, zer_01, lg_cmp_ge, lg_cmp_le, lg_cmp_gt, lg_cmp_lt, lg_cmp_eq, Classical.not_not, SHm hS, SHr hS, cc, nI_1]
          exact ⟨fun c3 => nay (fun z => z.elim c1 (fun u => c3 u.2)), fun c3 => yes (Or.inr ⟨c2, c3⟩)⟩
  exact loop (2 ^ D) 0 sg _ (by omega) (fun _ _ _ => rfl)
set_option maxHeartbeats 4000000 in
set_option maxRecDepth 100000 in
theorem b_least {a b y : Int32} (hS : Sh mu ro) (hd : 4 ≤ d) (hI : I_nt sg) (hW : I_wk sg N) (hk : ∀ r sg2, Fr [] sg sg2 → K r sg2) : aCall d 129 [.ref 0, .int a, .int b, .int y] n mu ro sg (fun r1 sg1 => aCall d 231 [.ref 48, .int a, .int b, .int y] n mu ro sg1 (fun r2 sg2 => r1 = r2 ∧ K r1 sg2)) := by
  obtain ⟨R, P, D, dA, dB, S, hN, hX, hM⟩ := id hI
  obtain ⟨WA, WB, w⟩ := wk_of hW
  obtain ⟨⟨k1, k2⟩, k3, k4⟩ := id hW
  refine c_least (WA := WA) (WB := WB) hS hd hN hX k1 k3 (fun j hj => ⟨(w j hj).1, (w j hj).2.2.1, (w j hj).2.2.2.1, (w j hj).2.2.2.2.2⟩) (fun q => ?_) (fun q q2 σ hF => ?_)
  · exact m_least (WA := WA) (WB := WB) hS hd hN hM k2 k3 (fun j hj => ⟨(w j hj).2.1, (w j hj).2.2.1, (w j hj).2.2.2.2.1, (w j hj).2.2.2.2.2⟩) (fun _ => ⟨rfl, hk _ _ Fr.rfl⟩) (fun z z2 => absurd ⟨z, z2⟩ q)
  · have o : ∀ x k, 9 ≤ x → σ x k = sg x k := fun x k hx => hF x k (by omega) (by omega) (by omega) (by omega)
    refine m_least (WA := WA) (WB := WB) hS hd hN (hF.m hM) (by rw [o 48 42 (by decide)]; exact k2) k3 (fun j hj => by rw [o 79 j (by decide), o 80 j (by decide)]; exact ⟨(w j hj).2.1, (w j hj).2.2.1, (w j hj).2.2.2.2.1, (w j hj).2.2.2.2.2⟩) (fun z => absurd ⟨q, q2⟩ z) (fun _ _ σ2 h2 => ⟨?_, hk _ _ (fr_q hF h2)⟩)
    have e : ∀ j, ltH R P D dA dB S WA WB N (sg 12) j = ltH R P D dA dB S WA WB N (σ 81) j := fun j => smG_cg N (fun i hi => by rw [o 81 i (by decide)]; exact (k4 i hi).2.2.2.2.1) (fun _ _ => rfl)
    rw [lb_cg (fun _ => rfl) e]
end H53
