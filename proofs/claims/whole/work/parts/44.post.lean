/-! part 44: post, door, shut on both sides -/
section H44
variable {d n N : Nat} {mu : aM} {ro : aR} {sg : aS} {K : Option Value → aS → Prop} {R P : Nat → Nat → Bool} {D : Nat} {dA dB : Nat → Nat} {S : Nat → Bool}
def FCn (s s' : aS) : Prop := ∀ x k, ¬ (1 ≤ x ∧ x ≤ 5 ∧ ¬ (x = 1 ∧ k = 7)) → s' x k = s x k
def FMn (s s' : aS) : Prop := ∀ x k, ¬ (49 ≤ x ∧ x ≤ 53) → ¬ (x = 48 ∧ (k = 4 ∨ k = 7)) → s' x k = s x k
theorem FCn.m {s s' : aS} (h : FCn s s') (hM : M_nt s R P D dA dB S) : M_nt s' R P D dA dB S := by
  have o : ∀ x, 6 ≤ x → s' x = s x := fun x hx => funext (fun k => h x k (by omega))
  unfold M_nt at *
  rw [o 49 (by decide), o 50 (by decide), o 48 (by decide), o 51 (by decide), o 52 (by decide), o 53 (by decide)]
  exact hM
theorem FMn.c {s s' : aS} (h : FMn s s') (hX : C_nt s R P D dA dB S) : C_nt s' R P D dA dB S := by
  have o : ∀ x, x < 48 → s' x = s x := fun x hx => funext (fun k => h x k (by omega) (by omega))
  unfold C_nt at *
  rw [o 1 (by decide), o 2 (by decide), o 3 (by decide), o 4 (by decide), o 5 (by decide)]
  exact hX
theorem reg_n1 {x k : Nat} (h : 1 ≤ x ∧ x ≤ 5 ∧ ¬ (x = 1 ∧ k = 7)) : reg x k = 1 := by
  obtain ⟨h1, h2, h3⟩ := h
  rcases (show x = 1 ∨ x = 2 ∨ x = 3 ∨ x = 4 ∨ x = 5 by omega) with rfl | rfl | rfl | rfl | rfl
  · show (if k = 7 then 0 else 1) = 1
    rw [if_neg (by omega)]
  all_goals rfl
theorem reg_n2 {x k : Nat} (h : 49 ≤ x ∧ x ≤ 53) : reg x k = 1 := by
  obtain ⟨h1, h2⟩ := h
  rcases (show x = 49 ∨ x = 50 ∨ x = 51 ∨ x = 52 ∨ x = 53 by omega) with rfl | rfl | rfl | rfl | rfl
  all_goals rfl
theorem fr_net {s s' s'' : aS} (h : FCn s s') (h2 : FMn s' s'') : Fr [1] s s'' := by
  intro x k y1 y2
  have a1 : ¬ (1 ≤ x ∧ x ≤ 5 ∧ ¬ (x = 1 ∧ k = 7)) := fun z => y1 (by rw [reg_n1 z]; decide)
  have a2 : ¬ (49 ≤ x ∧ x ≤ 53) := fun z => y1 (by rw [reg_n2 z]; decide)
  have a3 : ¬ (x = 48 ∧ (k = 4 ∨ k = 7)) := by
    rintro ⟨rfl, rfl | rfl⟩
    · exact y1 (List.mem_singleton.mpr rfl)
    · exact y1 (List.mem_singleton.mpr rfl)
  rw [h2 x k a2 a3, h x k a1]
theorem eqb {b : Bool} {p : Prop} [Decidable p] (h : ¬ (b = true ↔ p)) : b = !decide p := by
  cases b with
  | true =>
    have : ¬ p := fun u => h ⟨fun _ => u, fun _ => rfl⟩
    rw [decide_eq_false this]; rfl
  | false =>
    have : p := Classical.byContradiction (fun u => h ⟨fun z => absurd z (by decide), fun z => absurd z u⟩)
    rw [decide_eq_true this]; rfl
def rdOk (R : Nat → Nat → Bool) (a b : Int32) : Prop := ∃ a' b' : Nat, a' < 10 ∧ b' < 10 ∧ a = nI a' ∧ b = nI b' ∧ R a' b' = true
theorem rd_no {a b : Int32} (h : ¬ ((0 ≤ a.toInt ∧ a.toInt ≤ 9) ∧ (0 ≤ b.toInt ∧ b.toInt ≤ 9))) : ¬ rdOk R a b := fun ⟨_, _, g1, g2, g3, g4, _⟩ => h ⟨mc9 g1 g3, mc9 g2 g4⟩
theorem rd_no2 {a' b' : Nat} (ha : a' < 10) (hb : b' < 10) (h : ¬ R a' b' = true) : ¬ rdOk R (nI a') (nI b') := by
  rintro ⟨x, y, g1, g2, g3, g4, g5⟩
  have z1 : a' = x := nI_inj (by omega) (by omega) rfl g3
  have z2 : b' = y := nI_inj (by omega) (by omega) rfl g4
  subst z1 z2
  exact h g5
theorem Nt.post {a b : Nat} {v : Bool} (h : Nt R P D dA dB S) (ha : a < 10) (hb : b < 10) (hR : R a b = true) : Nt R (seE P a b v) D dA dB S := by
  obtain ⟨h1, h2, h3, h4, h5, h6, h7, h8⟩ := h
  refine ⟨h1, h2, h3, fun x y hx hy => ?_, fun x y hx hy q => ?_, h6, h7, h8⟩
  · unfold seE
    by_cases z : (x = a ∧ y = b) ∨ (x = b ∧ y = a)
    · rw [if_pos z, if_pos (by omega)]
    · rw [if_neg z, if_neg (by omega), h4 x y hx hy]
  · unfold seE at q
    by_cases z : (x = a ∧ y = b) ∨ (x = b ∧ y = a)
    · rcases z with ⟨rfl, rfl⟩ | ⟨rfl, rfl⟩
      · exact hR
      · rw [h2 x y hx hy]; exact hR
    · rw [if_neg z] at q
      exact h5 x y hx hy q
theorem Nt.ne {a b : Nat} (h : Nt R P D dA dB S) (ha : a < 10) (hR : R a b = true) : a ≠ b := by
  rintro rfl
  rw [h.2.2.1 a ha] at hR
  exact absurd hR (by decide)
theorem P_turn {w : Nat → Int32} {w' : Nat → Int32} {a b : Nat} {v : Bool} (hx : ∀ x, x < 10 → rwO (w x) 10 (P x)) (ha : a < 10) (hb : b < 10) (hab : a ≠ b) (hv : P a b = !v) (hv2 : P b a = !v) (e : ∀ x, w' x = if x = a then w a ^^^ (1 <<< (nI b &&& 31)) else if x = b then w b ^^^ (1 <<< (nI a &&& 31)) else w x) : ∀ x, x < 10 → rwO (w' x) 10 (seE P a b v x) := by
  intro x hx'
  rw [e]
  by_cases q1 : x = a
  · rw [if_pos q1, q1]
    exact rs_xo (hx a ha) hb hab hv
  · by_cases q2 : x = b
    · rw [if_neg q1, if_pos q2, q2, seE_c]
      exact rs_xo (hx b hb) ha hab.symm hv2
    · rw [if_neg q1, if_neg q2]
      exact rw_cg (hx x hx') (fun j _ => (seE_o q1 q2 j).symm)
set_option maxHeartbeats 4000000 in
set_option maxRecDepth 100000 in
theorem c_turnPost {a b : Nat} (hS : Sh mu ro) (ha : a < 10) (hb : b < 10) (hab : a ≠ b) (hk : K none (s2 (s2 sg 3 a (sg 3 a ^^^ (1 <<< (nI b &&& 31)))) 3 b (sg 3 b ^^^ (1 <<< (nI a &&& 31))))) : aCall d 25 [.ref 1, .int (nI a), .int (nI b)] n mu ro sg K := by
  have ea : (nI a).toNatClampNeg = a := nI_clamp (by omega)
  have va : vp_in (nI a) 10 := vp_in_nI ha (by decide)
  have eb : (nI b).toNatClampNeg = b := nI_clamp (by omega)
  have vb : vp_in (nI b) 10 := vp_in_nI hb (by decide)
  have r1 : ∀ v, s2 sg 3 a v 3 b = sg 3 b := fun v => s2_n (by omega)
  refine aCall_start (mL := 3) (cc := cX4_turnPost) (o := 4) (ret := none) 0 (by decide) (by decide +kernel) rfl rfl rfl rfl (Nat.le_of_ble_eq_true rfl) (fun G hC hG => ?_)
  simp only [exL, List.cons_append, List.nil_append, rp_0, rp_1, rp_2, rp_3, rp_4, rp_5, rp_6, rp_7, rp_8, rp_9, rp_10, rp_11, List.append_nil]
  refine hG (fun _ => false) 80 _ _ _ _ (Nat.le_of_ble_eq_true rfl) ?_
  simp only [D_X4_turnPost, ↓reduceIte, vcS, vcC, vcI, gtF, ptF, inS, inV, fv0, fv1, fv2, fv3, fw0, fw1, lg_0, lg_1, lg_2, lg_3, lg_4, lg_5, lg_6, lg_7, lg_8, lg_9, lg_10, lg_11, lg_12, lg_13, lg_14, lsq_0, lsl_0, lsq_1, lsl_1, lsq_2, lsl_2, lsq_3, lsl_3, lsq_4, lsl_4, lsq_5, lsl_5, lsq_6, lsl_6, lsq_7, lsl_7, lsq_8, lsl_8, lsq_9, lsl_9, lsq_10, lsl_10, lsq_11, lsl_11, lsq_12, lsl_12, lsq_13, lsl_13, lsq_14, lsl_14, tk_0, tk_1, tk_2, tk_3, tk_4, tk_5, tk_6, tk_7, tk_8, cs_n, cs_i, cs_l, cs_r, cs_u, nl, rt_s, rt_n, CST1, Nat.reduceAdd, Nat.reduceLeDiff, va_rf, rtOk, Bool.false_eq_true, Bool.true_eq_false, if_false, if_true, ite_true, ite_false, true_and, and_true, eq_self, ne_eq, not_false_eq_true, not_true_eq_false, false_implies, true_implies, and_self, reduceCtorEq, Nat.reduceBEq, Bool.or_false, Bool.false_or, Bool.or_true, Bool.true_or, if1_0, if1_1, if1_01, one_01, zer_01, lg_cmp_ge, lg_cmp_le, lg_cmp_gt, lg_cmp_lt, lg_cmp_eq, Classical.not_not, SHm hS, SHr hS, ea, va, eb, vb, r1]
  exact hk
set_option maxHeartbeats 4000000 in
set_option maxRecDepth 100000 in
theorem c_post {a b : Int32} {p : Prop} [Decidable p] (hS : Sh mu ro) (hd : 4 ≤ d) (hN : Nt R P D dA dB S) (hX : C_nt sg R P D dA dB S) (hk1 : ¬ rdOk R a b → K (some (.int (-1))) sg)
    (hk3 : ∀ a' b' : Nat, a' < 10 → b' < 10 → a = nI a' → b = nI b' → R a' b' = true → (P a' b' = true ↔ p) → K (some (.int 0)) sg)
    (hk4 : ∀ a' b' : Nat, a' < 10 → b' < 10 → a = nI a' → b = nI b' → R a' b' = true → ¬ (P a' b' = true ↔ p) → ∀ σ, C_nt σ R (seE P a' b' (decide p)) D dA dB S → FCn sg σ → K (some (.int 1)) σ) : aCall d 95 [.ref 0, .int a, .int b, .int (if p then 1 else 0)] n mu ro sg K := by
  refine aCall_start (mL := 4) (cc := cX11_post) (o := 11) (ret := (some .int)) 0 (by decide) (by decide +kernel) rfl rfl rfl rfl (Nat.le_of_ble_eq_true rfl) (fun G hC hG => ?_)
  simp only [exL, List.cons_append, List.nil_append, rp_0, rp_1, rp_2, rp_3, rp_4, rp_5, rp_6, rp_7, rp_8, rp_9, rp_10, rp_11, List.append_nil]
  refine hG (fun _ => false) 80 _ _ _ _ (Nat.le_of_ble_eq_true rfl) ?_
  simp only [D_X11_post, N_X11_post, ↓reduceIte, vcS, vcC, vcI, gtF, ptF, inS, inV, fv0, fv1, fv2, fv3, fw0, fw1, lg_0, lg_1, lg_2, lg_3, lg_4, lg_5, lg_6, lg_7, lg_8, lg_9, lg_10, lg_11, lg_12, lg_13, lg_14, lsq_0, lsl_0, lsq_1, lsl_1, lsq_2, lsl_2, lsq_3, lsl_3, lsq_4, lsl_4, lsq_5, lsl_5, lsq_6, lsl_6, lsq_7, lsl_7, lsq_8, lsl_8, lsq_9, lsl_9, lsq_10, lsl_10, lsq_11, lsl_11, lsq_12, lsl_12, lsq_13, lsl_13, lsq_14, lsl_14, tk_0, tk_1, tk_2, tk_3, tk_4, tk_5, tk_6, tk_7, tk_8, cs_n, cs_i, cs_l, cs_r, cs_u, nl, rt_s, rt_n, CST1, Nat.reduceAdd, Nat.reduceLeDiff, va_rf, rtOk, Bool.false_eq_true, Bool.true_eq_false, if_false, if_true, ite_true, ite_false, true_and, and_true, eq_self, ne_eq, not_false_eq_true, not_true_eq_false, false_implies, true_implies, and_self, reduceCtorEq, Nat.reduceBEq, Bool.or_false, Bool.false_or, Bool.or_true, Bool.true_or, if1_0, if1_1, if1_01, one_01, zer_01, lg_cmp_ge, lg_cmp_le, lg_cmp_gt, lg_cmp_lt, lg_cmp_eq, Classical.not_not, SHm hS, SHr hS]
  refine ⟨by omega, c_areMachines (by omega) ?_⟩
  simp only [D_X11_post, N_X11_post, ↓reduceIte, vcS, vcC, vcI, gtF, ptF, inS, inV, fv0, fv1, fv2, fv3, fw0, fw1, lg_0, lg_1, lg_2, lg_3, lg_4, lg_5, lg_6, lg_7, lg_8, lg_9, lg_10, lg_11, lg_12, lg_13, lg_14, lsq_0, lsl_0, lsq_1, lsl_1, lsq_2, lsl_2, lsq_3, lsl_3, lsq_4, lsl_4, lsq_5, lsl_5, lsq_6, lsl_6, lsq_7, lsl_7, lsq_8, lsl_8, lsq_9, lsl_9, lsq_10, lsl_10, lsq_11, lsl_11, lsq_12, lsl_12, lsq_13, lsl_13, lsq_14, lsl_14, tk_0, tk_1, tk_2, tk_3, tk_4, tk_5, tk_6, tk_7, tk_8, cs_n, cs_i, cs_l, cs_r, cs_u, nl, rt_s, rt_n, CST1, Nat.reduceAdd, Nat.reduceLeDiff, va_rf, rtOk, Bool.false_eq_true, Bool.true_eq_false, if_false, if_true, ite_true, ite_false, true_and, and_true, eq_self, ne_eq, not_false_eq_true, not_true_eq_false, false_implies, true_implies, and_self, reduceCtorEq, Nat.reduceBEq, Bool.or_false, Bool.false_or, Bool.or_true, Bool.true_or, if1_0, if1_1, if1_01, one_01, zer_01, lg_cmp_ge, lg_cmp_le, lg_cmp_gt, lg_cmp_lt, lg_cmp_eq, Classical.not_not, SHm hS, SHr hS]
  refine ⟨fun q => hk1 (rd_no q), fun q => ⟨by omega, ?_⟩⟩
  obtain ⟨a', ha', rfl⟩ := i_of (x := a) (N := 9) q.1.1 q.1.2 (by decide)
  obtain ⟨b', hb', rfl⟩ := i_of (x := b) (N := 9) q.2.1 q.2.2 (by decide)
  refine c_hasRoad hS (by omega) (by omega) (hX.1 a' (by omega)) ?_
  simp only [D_X11_post, N_X11_post, ↓reduceIte, vcS, vcC, vcI, gtF, ptF, inS, inV, fv0, fv1, fv2, fv3, fw0, fw1, lg_0, lg_1, lg_2, lg_3, lg_4, lg_5, lg_6, lg_7, lg_8, lg_9, lg_10, lg_11, lg_12, lg_13, lg_14, lsq_0, lsl_0, lsq_1, lsl_1, lsq_2, lsl_2, lsq_3, lsl_3, lsq_4, lsl_4, lsq_5, lsl_5, lsq_6, lsl_6, lsq_7, lsl_7, lsq_8, lsl_8, lsq_9, lsl_9, lsq_10, lsl_10, lsq_11, lsl_11, lsq_12, lsl_12, lsq_13, lsl_13, lsq_14, lsl_14, tk_0, tk_1, tk_2, tk_3, tk_4, tk_5, tk_6, tk_7, tk_8, cs_n, cs_i, cs_l, cs_r, cs_u, nl, rt_s, rt_n, CST1, Nat.reduceAdd, Nat.reduceLeDiff, va_rf, rtOk, Bool.false_eq_true, Bool.true_eq_false, if_false, if_true, ite_true, ite_false, true_and, and_true, eq_self, ne_eq, not_false_eq_true, not_true_eq_false, false_implies, true_implies, and_self, reduceCtorEq, Nat.reduceBEq, Bool.or_false, Bool.false_or, Bool.or_true, Bool.true_or, if1_0, if1_1, if1_01, one_01, zer_01, lg_cmp_ge, lg_cmp_le, lg_cmp_gt, lg_cmp_lt, lg_cmp_eq, Classical.not_not, SHm hS, SHr hS]
  refine ⟨fun q2 => ⟨by omega, ?_⟩, fun q2 => hk1 (rd_no2 (by omega) (by omega) q2)⟩
  refine c_hasPost hS (by omega) (by omega) (hX.2.1 a' (by omega)) ?_
  simp only [D_X11_post, N_X11_post, ↓reduceIte, vcS, vcC, vcI, gtF, ptF, inS, inV, fv0, fv1, fv2, fv3, fw0, fw1, lg_0, lg_1, lg_2, lg_3, lg_4, lg_5, lg_6, lg_7, lg_8, lg_9, lg_10, lg_11, lg_12, lg_13, lg_14, lsq_0, lsl_0, lsq_1, lsl_1, lsq_2, lsl_2, lsq_3, lsl_3, lsq_4, lsl_4, lsq_5, lsl_5, lsq_6, lsl_6, lsq_7, lsl_7, lsq_8, lsl_8, lsq_9, lsl_9, lsq_10, lsl_10, lsq_11, lsl_11, lsq_12, lsl_12, lsq_13, lsl_13, lsq_14, lsl_14, tk_0, tk_1, tk_2, tk_3, tk_4, tk_5, tk_6, tk_7, tk_8, cs_n, cs_i, cs_l, cs_r, cs_u, nl, rt_s, rt_n, CST1, Nat.reduceAdd, Nat.reduceLeDiff, va_rf, rtOk, Bool.false_eq_true, Bool.true_eq_false, if_false, if_true, ite_true, ite_false, true_and, and_true, eq_self, ne_eq, not_false_eq_true, not_true_eq_false, false_implies, true_implies, and_self, reduceCtorEq, Nat.reduceBEq, Bool.or_false, Bool.false_or, Bool.or_true, Bool.true_or, if1_0, if1_1, if1_01, one_01, zer_01, lg_cmp_ge, lg_cmp_le, lg_cmp_gt, lg_cmp_lt, lg_cmp_eq, Classical.not_not, SHm hS, SHr hS, if_if]
  have hab := hN.ne (show a' < 10 by omega) q2
  refine ⟨fun q3 => ⟨by omega, c_turnPost hS (by omega) (by omega) hab ?_⟩, fun q3 => hk3 a' b' (by omega) (by omega) rfl rfl q2 q3⟩
  simp only [D_X11_post, N_X11_post, ↓reduceIte, vcS, vcC, vcI, gtF, ptF, inS, inV, fv0, fv1, fv2, fv3, fw0, fw1, lg_0, lg_1, lg_2, lg_3, lg_4, lg_5, lg_6, lg_7, lg_8, lg_9, lg_10, lg_11, lg_12, lg_13, lg_14, lsq_0, lsl_0, lsq_1, lsl_1, lsq_2, lsl_2, lsq_3, lsl_3, lsq_4, lsl_4, lsq_5, lsl_5, lsq_6, lsl_6, lsq_7, lsl_7, lsq_8, lsl_8, lsq_9, lsl_9, lsq_10, lsl_10, lsq_11, lsl_11, lsq_12, lsl_12, lsq_13, lsl_13, lsq_14, lsl_14, tk_0, tk_1, tk_2, tk_3, tk_4, tk_5, tk_6, tk_7, tk_8, cs_n, cs_i, cs_l, cs_r, cs_u, nl, rt_s, rt_n, CST1, Nat.reduceAdd, Nat.reduceLeDiff, va_rf, rtOk, Bool.false_eq_true, Bool.true_eq_false, if_false, if_true, ite_true, ite_false, true_and, and_true, eq_self, ne_eq, not_false_eq_true, not_true_eq_false, false_implies, true_implies, and_self, reduceCtorEq, Nat.reduceBEq, Bool.or_false, Bool.false_or, Bool.or_true, Bool.true_or, if1_0, if1_1, if1_01, one_01, zer_01, lg_cmp_ge, lg_cmp_le, lg_cmp_gt, lg_cmp_lt, lg_cmp_eq, Classical.not_not, SHm hS, SHr hS]
  have hv := eqb q3
  obtain ⟨x1, x2, x3, x4, x5, x6⟩ := id hX
  refine hk4 a' b' (by omega) (by omega) rfl rfl q2 q3 _ ⟨fun x hx => by rw [s2_n (by omega), s2_n (by omega)]; exact x1 x hx, P_turn x2 (by omega) (by omega) hab hv (by rw [← hN.2.2.2.1 a' b' (by omega) (by omega)]; exact hv) (fun x => ?_), by ((try simp (disch := omega) only [s2_y, s2_n, rg_y, rg_n, fl_y, fl_n]); (try with_reducible rfl); (try assumption)), fun e he => ?_, ?_, ?_⟩ (fun x k z => by ((try simp (disch := omega) only [s2_y, s2_n, rg_y, rg_n, fl_y, fl_n]); (try with_reducible rfl); (try assumption)))
  · by_cases q5 : x = a'
    · rw [if_pos q5, q5]; ((try simp (disch := omega) only [s2_y, s2_n, rg_y, rg_n, fl_y, fl_n]); (try with_reducible rfl); (try assumption))
    · by_cases q6 : x = b'
      · rw [if_neg q5, if_pos q6, q6]; ((try simp (disch := omega) only [s2_y, s2_n, rg_y, rg_n, fl_y, fl_n]); (try with_reducible rfl); (try assumption))
      · rw [if_neg q5, if_neg q6]; ((try simp (disch := omega) only [s2_y, s2_n, rg_y, rg_n, fl_y, fl_n]); (try with_reducible rfl); (try assumption))
  · rw [s2_n (by omega), s2_n (by omega), s2_n (by omega), s2_n (by omega)]; exact x4 e he
  · rw [s2_n (by omega), s2_n (by omega)]; exact x5
  · rw [s2_n (by omega), s2_n (by omega)]; exact x6
set_option maxHeartbeats 4000000 in
set_option maxRecDepth 100000 in
theorem m_noRoad {a b : Int32} (hS : Sh mu ro) (hd : 2 ≤ d) (hx : ∀ x, x < 10 → rwO (sg 49 x) 10 (R x)) (hk1 : ¬ rdOk R a b → K (some (.int 1)) sg) (hk2 : ∀ a' b' : Nat, a' < 10 → b' < 10 → a = nI a' → b = nI b' → R a' b' = true → K (some (.int 0)) sg) : aCall d 167 [.ref 48, .int a, .int b] n mu ro sg K := by
  refine aCall_start (mL := 3) (cc := cX12_noRoad) (o := 12) (ret := (some .boolean)) 0 (by decide) (by decide +kernel) rfl rfl rfl rfl (Nat.le_of_ble_eq_true rfl) (fun G hC hG => ?_)
  simp only [exL, List.cons_append, List.nil_append, rp_0, rp_1, rp_2, rp_3, rp_4, rp_5, rp_6, rp_7, rp_8, rp_9, rp_10, rp_11, List.append_nil]
  refine hG (fun _ => false) 80 _ _ _ _ (Nat.le_of_ble_eq_true rfl) ?_
  simp only [D_X12_noRoad, ↓reduceIte, vcS, vcC, vcI, gtF, ptF, inS, inV, fv0, fv1, fv2, fv3, fw0, fw1, lg_0, lg_1, lg_2, lg_3, lg_4, lg_5, lg_6, lg_7, lg_8, lg_9, lg_10, lg_11, lg_12, lg_13, lg_14, lsq_0, lsl_0, lsq_1, lsl_1, lsq_2, lsl_2, lsq_3, lsl_3, lsq_4, lsl_4, lsq_5, lsl_5, lsq_6, lsl_6, lsq_7, lsl_7, lsq_8, lsl_8, lsq_9, lsl_9, lsq_10, lsl_10, lsq_11, lsl_11, lsq_12, lsl_12, lsq_13, lsl_13, lsq_14, lsl_14, tk_0, tk_1, tk_2, tk_3, tk_4, tk_5, tk_6, tk_7, tk_8, cs_n, cs_i, cs_l, cs_r, cs_u, nl, rt_s, rt_n, CST1, Nat.reduceAdd, Nat.reduceLeDiff, va_rf, rtOk, Bool.false_eq_true, Bool.true_eq_false, if_false, if_true, ite_true, ite_false, true_and, and_true, eq_self, ne_eq, not_false_eq_true, not_true_eq_false, false_implies, true_implies, and_self, reduceCtorEq, Nat.reduceBEq, Bool.or_false, Bool.false_or, Bool.or_true, Bool.true_or, if1_0, if1_1, if1_01, one_01, zer_01, lg_cmp_ge, lg_cmp_le, lg_cmp_gt, lg_cmp_lt, lg_cmp_eq, Classical.not_not, SHm hS, SHr hS]
  by_cases hok : (0 ≤ a.toInt ∧ a.toInt ≤ 9) ∧ (0 ≤ b.toInt ∧ b.toInt ≤ 9)
  · obtain ⟨a', ha', rfl⟩ := i_of (x := a) (N := 9) hok.1.1 hok.1.2 (by decide)
    obtain ⟨b', hb', rfl⟩ := i_of (x := b) (N := 9) hok.2.1 hok.2.2 (by decide)
    have hPa := eq_true hok.1
    have hPb := eq_true hok.2
    have ea : (nI a').toNatClampNeg = a' := nI_clamp (by omega)
    have va : vp_in (nI a') 10 := vp_in_nI (by omega) (by decide)
    have hq : ((sg 49 a' >>> (nI b' &&& 31)) &&& 1 = 1) = (R a' b' = true) := rw_bt (hx a' (by omega)) (show b' < 10 by omega) (by omega)
    refine ⟨by omega, m_noMachine (by omega) ?_⟩
    simp only [D_X12_noRoad, ↓reduceIte, vcS, vcC, vcI, gtF, ptF, inS, inV, fv0, fv1, fv2, fv3, fw0, fw1, lg_0, lg_1, lg_2, lg_3, lg_4, lg_5, lg_6, lg_7, lg_8, lg_9, lg_10, lg_11, lg_12, lg_13, lg_14, lsq_0, lsl_0, lsq_1, lsl_1, lsq_2, lsl_2, lsq_3, lsl_3, lsq_4, lsl_4, lsq_5, lsl_5, lsq_6, lsl_6, lsq_7, lsl_7, lsq_8, lsl_8, lsq_9, lsl_9, lsq_10, lsl_10, lsq_11, lsl_11, lsq_12, lsl_12, lsq_13, lsl_13, lsq_14, lsl_14, tk_0, tk_1, tk_2, tk_3, tk_4, tk_5, tk_6, tk_7, tk_8, cs_n, cs_i, cs_l, cs_r, cs_u, nl, rt_s, rt_n, CST1, Nat.reduceAdd, Nat.reduceLeDiff, va_rf, rtOk, Bool.false_eq_true, Bool.true_eq_false, if_false, if_true, ite_true, ite_false, true_and, and_true, eq_self, ne_eq, not_false_eq_true, not_true_eq_false, false_implies, true_implies, and_self, reduceCtorEq, Nat.reduceBEq, Bool.or_false, Bool.false_or, Bool.or_true, Bool.true_or, if1_0, if1_1, if1_01, one_01, zer_01, lg_cmp_ge, lg_cmp_le, lg_cmp_gt, lg_cmp_lt, lg_cmp_eq, Classical.not_not, SHm hS, SHr hS, hPa]
    refine ⟨by omega, m_noMachine (by omega) ?_⟩
    simp only [D_X12_noRoad, ↓reduceIte, vcS, vcC, vcI, gtF, ptF, inS, inV, fv0, fv1, fv2, fv3, fw0, fw1, lg_0, lg_1, lg_2, lg_3, lg_4, lg_5, lg_6, lg_7, lg_8, lg_9, lg_10, lg_11, lg_12, lg_13, lg_14, lsq_0, lsl_0, lsq_1, lsl_1, lsq_2, lsl_2, lsq_3, lsl_3, lsq_4, lsl_4, lsq_5, lsl_5, lsq_6, lsl_6, lsq_7, lsl_7, lsq_8, lsl_8, lsq_9, lsl_9, lsq_10, lsl_10, lsq_11, lsl_11, lsq_12, lsl_12, lsq_13, lsl_13, lsq_14, lsl_14, tk_0, tk_1, tk_2, tk_3, tk_4, tk_5, tk_6, tk_7, tk_8, cs_n, cs_i, cs_l, cs_r, cs_u, nl, rt_s, rt_n, CST1, Nat.reduceAdd, Nat.reduceLeDiff, va_rf, rtOk, Bool.false_eq_true, Bool.true_eq_false, if_false, if_true, ite_true, ite_false, true_and, and_true, eq_self, ne_eq, not_false_eq_true, not_true_eq_false, false_implies, true_implies, and_self, reduceCtorEq, Nat.reduceBEq, Bool.or_false, Bool.false_or, Bool.or_true, Bool.true_or, if1_0, if1_1, if1_01, one_01, zer_01, lg_cmp_ge, lg_cmp_le, lg_cmp_gt, lg_cmp_lt, lg_cmp_eq, Classical.not_not, SHm hS, SHr hS, hPb, ea, va]
    refine ⟨by omega, m_hasBit ?_⟩
    simp only [D_X12_noRoad, ↓reduceIte, vcS, vcC, vcI, gtF, ptF, inS, inV, fv0, fv1, fv2, fv3, fw0, fw1, lg_0, lg_1, lg_2, lg_3, lg_4, lg_5, lg_6, lg_7, lg_8, lg_9, lg_10, lg_11, lg_12, lg_13, lg_14, lsq_0, lsl_0, lsq_1, lsl_1, lsq_2, lsl_2, lsq_3, lsl_3, lsq_4, lsl_4, lsq_5, lsl_5, lsq_6, lsl_6, lsq_7, lsl_7, lsq_8, lsl_8, lsq_9, lsl_9, lsq_10, lsl_10, lsq_11, lsl_11, lsq_12, lsl_12, lsq_13, lsl_13, lsq_14, lsl_14, tk_0, tk_1, tk_2, tk_3, tk_4, tk_5, tk_6, tk_7, tk_8, cs_n, cs_i, cs_l, cs_r, cs_u, nl, rt_s, rt_n, CST1, Nat.reduceAdd, Nat.reduceLeDiff, va_rf, rtOk, Bool.false_eq_true, Bool.true_eq_false, if_false, if_true, ite_true, ite_false, true_and, and_true, eq_self, ne_eq, not_false_eq_true, not_true_eq_false, false_implies, true_implies, and_self, reduceCtorEq, Nat.reduceBEq, Bool.or_false, Bool.false_or, Bool.or_true, Bool.true_or, if1_0, if1_1, if1_01, one_01, zer_01, lg_cmp_ge, lg_cmp_le, lg_cmp_gt, lg_cmp_lt, lg_cmp_eq, Classical.not_not, SHm hS, SHr hS, hq]
    exact ⟨fun q => hk2 a' b' (by omega) (by omega) rfl rfl q, fun q => hk1 (rd_no2 (by omega) (by omega) q)⟩
  · have hk3 := hk1 (rd_no hok)
    repeat' (first | (with_reducible assumption) | (refine vp_in_iff.mpr ?_; ((try simp only [i_le, i_lt, i_eq, l_le, l_lt, l_eq, i_ne, l_ne, toL, l_add, l_sub1, LIT1, LIT2, Int.reduceNeg, ge_iff_le, gt_iff_lt] at *); omega)) | (refine And.intro ?_ ?_) | (omega) | (refine m_noMachine (by omega) ?_; simp only [D_X12_noRoad, ↓reduceIte, vcS, vcC, vcI, gtF, ptF, inS, inV, fv0, fv1, fv2, fv3, fw0, fw1, lg_0, lg_1, lg_2, lg_3, lg_4, lg_5, lg_6, lg_7, lg_8, lg_9, lg_10, lg_11, lg_12, lg_13, lg_14, lsq_0, lsl_0, lsq_1, lsl_1, lsq_2, lsl_2, lsq_3, lsl_3, lsq_4, lsl_4, lsq_5, lsl_5, lsq_6, lsl_6, lsq_7, lsl_7, lsq_8, lsl_8, lsq_9, lsl_9, lsq_10, lsl_10, lsq_11, lsl_11, lsq_12, lsl_12, lsq_13, lsl_13, lsq_14, lsl_14, tk_0, tk_1, tk_2, tk_3, tk_4, tk_5, tk_6, tk_7, tk_8, cs_n, cs_i, cs_l, cs_r, cs_u, nl, rt_s, rt_n, CST1, Nat.reduceAdd, Nat.reduceLeDiff, va_rf, rtOk, Bool.false_eq_true, Bool.true_eq_false, if_false, if_true, ite_true, ite_false, true_and, and_true, eq_self, ne_eq, not_false_eq_true, not_true_eq_false, false_implies, true_implies, and_self, reduceCtorEq, Nat.reduceBEq, Bool.or_false, Bool.false_or, Bool.or_true, Bool.true_or, if1_0, if1_1, if1_01, one_01, zer_01, lg_cmp_ge, lg_cmp_le, lg_cmp_gt, lg_cmp_lt, lg_cmp_eq, Classical.not_not, SHm hS, SHr hS]) | (with_reducible intro _))
    all_goals first | (exact hk3) | (exfalso; omega)
set_option maxHeartbeats 4000000 in
set_option maxRecDepth 100000 in
theorem m_post {a b : Int32} {p : Prop} [Decidable p] (hS : Sh mu ro) (hd : 4 ≤ d) (hN : Nt R P D dA dB S) (hM : M_nt sg R P D dA dB S) (hk1 : ¬ rdOk R a b → K (some (.int (-1))) sg)
    (hk3 : ∀ a' b' : Nat, a' < 10 → b' < 10 → a = nI a' → b = nI b' → R a' b' = true → (P a' b' = true ↔ p) → K (some (.int 0)) sg)
    (hk4 : ∀ a' b' : Nat, a' < 10 → b' < 10 → a = nI a' → b = nI b' → R a' b' = true → ¬ (P a' b' = true ↔ p) → ∀ σ, M_nt σ R (seE P a' b' (decide p)) D dA dB S → FMn sg σ → K (some (.int 1)) σ) : aCall d 168 [.ref 48, .int a, .int b, .int (if p then 1 else 0)] n mu ro sg K := by
  obtain ⟨x1, x2, x3, x4, x5, x6⟩ := id hM
  refine aCall_start (mL := 4) (cc := cX12_post) (o := 12) (ret := (some .int)) 0 (by decide) (by decide +kernel) rfl rfl rfl rfl (Nat.le_of_ble_eq_true rfl) (fun G hC hG => ?_)
  simp only [exL, List.cons_append, List.nil_append, rp_0, rp_1, rp_2, rp_3, rp_4, rp_5, rp_6, rp_7, rp_8, rp_9, rp_10, rp_11, List.append_nil]
  refine hG (fun _ => false) 80 _ _ _ _ (Nat.le_of_ble_eq_true rfl) ?_
  simp only [D_X12_post, N_X12_post, ↓reduceIte, vcS, vcC, vcI, gtF, ptF, inS, inV, fv0, fv1, fv2, fv3, fw0, fw1, lg_0, lg_1, lg_2, lg_3, lg_4, lg_5, lg_6, lg_7, lg_8, lg_9, lg_10, lg_11, lg_12, lg_13, lg_14, lsq_0, lsl_0, lsq_1, lsl_1, lsq_2, lsl_2, lsq_3, lsl_3, lsq_4, lsl_4, lsq_5, lsl_5, lsq_6, lsl_6, lsq_7, lsl_7, lsq_8, lsl_8, lsq_9, lsl_9, lsq_10, lsl_10, lsq_11, lsl_11, lsq_12, lsl_12, lsq_13, lsl_13, lsq_14, lsl_14, tk_0, tk_1, tk_2, tk_3, tk_4, tk_5, tk_6, tk_7, tk_8, cs_n, cs_i, cs_l, cs_r, cs_u, nl, rt_s, rt_n, CST1, Nat.reduceAdd, Nat.reduceLeDiff, va_rf, rtOk, Bool.false_eq_true, Bool.true_eq_false, if_false, if_true, ite_true, ite_false, true_and, and_true, eq_self, ne_eq, not_false_eq_true, not_true_eq_false, false_implies, true_implies, and_self, reduceCtorEq, Nat.reduceBEq, Bool.or_false, Bool.false_or, Bool.or_true, Bool.true_or, if1_0, if1_1, if1_01, one_01, zer_01, lg_cmp_ge, lg_cmp_le, lg_cmp_gt, lg_cmp_lt, lg_cmp_eq, Classical.not_not, SHm hS, SHr hS]
  refine ⟨by omega, m_noRoad hS (by omega) x1 (fun q => ?_) (fun a' b' ha hb e1 e2 q2 => ?_)⟩
  · simp only [D_X12_post, N_X12_post, ↓reduceIte, vcS, vcC, vcI, gtF, ptF, inS, inV, fv0, fv1, fv2, fv3, fw0, fw1, lg_0, lg_1, lg_2, lg_3, lg_4, lg_5, lg_6, lg_7, lg_8, lg_9, lg_10, lg_11, lg_12, lg_13, lg_14, lsq_0, lsl_0, lsq_1, lsl_1, lsq_2, lsl_2, lsq_3, lsl_3, lsq_4, lsl_4, lsq_5, lsl_5, lsq_6, lsl_6, lsq_7, lsl_7, lsq_8, lsl_8, lsq_9, lsl_9, lsq_10, lsl_10, lsq_11, lsl_11, lsq_12, lsl_12, lsq_13, lsl_13, lsq_14, lsl_14, tk_0, tk_1, tk_2, tk_3, tk_4, tk_5, tk_6, tk_7, tk_8, cs_n, cs_i, cs_l, cs_r, cs_u, nl, rt_s, rt_n, CST1, Nat.reduceAdd, Nat.reduceLeDiff, va_rf, rtOk, Bool.false_eq_true, Bool.true_eq_false, if_false, if_true, ite_true, ite_false, true_and, and_true, eq_self, ne_eq, not_false_eq_true, not_true_eq_false, false_implies, true_implies, and_self, reduceCtorEq, Nat.reduceBEq, Bool.or_false, Bool.false_or, Bool.or_true, Bool.true_or, if1_0, if1_1, if1_01, one_01, zer_01, lg_cmp_ge, lg_cmp_le, lg_cmp_gt, lg_cmp_lt, lg_cmp_eq, Classical.not_not, SHm hS, SHr hS, z10]
    exact hk1 q
  · subst e1 e2
    have hab := hN.ne (show a' < 10 by omega) q2
    have ea : (nI a').toNatClampNeg = a' := nI_clamp (by omega)
    have va : vp_in (nI a') 10 := vp_in_nI (by omega) (by decide)
    have eb : (nI b').toNatClampNeg = b' := nI_clamp (by omega)
    have vb : vp_in (nI b') 10 := vp_in_nI (by omega) (by decide)
    have hq : ((sg 50 a' >>> (nI b' &&& 31)) &&& 1 = 1) = (P a' b' = true) := rw_bt (x2 a' (by omega)) (show b' < 10 by omega) (by omega)
    have r1 : ∀ v, s2 sg 50 a' v 50 b' = sg 50 b' := fun v => s2_n (by omega)
    simp only [D_X12_post, N_X12_post, ↓reduceIte, vcS, vcC, vcI, gtF, ptF, inS, inV, fv0, fv1, fv2, fv3, fw0, fw1, lg_0, lg_1, lg_2, lg_3, lg_4, lg_5, lg_6, lg_7, lg_8, lg_9, lg_10, lg_11, lg_12, lg_13, lg_14, lsq_0, lsl_0, lsq_1, lsl_1, lsq_2, lsl_2, lsq_3, lsl_3, lsq_4, lsl_4, lsq_5, lsl_5, lsq_6, lsl_6, lsq_7, lsl_7, lsq_8, lsl_8, lsq_9, lsl_9, lsq_10, lsl_10, lsq_11, lsl_11, lsq_12, lsl_12, lsq_13, lsl_13, lsq_14, lsl_14, tk_0, tk_1, tk_2, tk_3, tk_4, tk_5, tk_6, tk_7, tk_8, cs_n, cs_i, cs_l, cs_r, cs_u, nl, rt_s, rt_n, CST1, Nat.reduceAdd, Nat.reduceLeDiff, va_rf, rtOk, Bool.false_eq_true, Bool.true_eq_false, if_false, if_true, ite_true, ite_false, true_and, and_true, eq_self, ne_eq, not_false_eq_true, not_true_eq_false, false_implies, true_implies, and_self, reduceCtorEq, Nat.reduceBEq, Bool.or_false, Bool.false_or, Bool.or_true, Bool.true_or, if1_0, if1_1, if1_01, one_01, zer_01, lg_cmp_ge, lg_cmp_le, lg_cmp_gt, lg_cmp_lt, lg_cmp_eq, Classical.not_not, SHm hS, SHr hS, ea, va]
    refine ⟨by omega, m_hasBit ?_⟩
    simp only [D_X12_post, N_X12_post, ↓reduceIte, vcS, vcC, vcI, gtF, ptF, inS, inV, fv0, fv1, fv2, fv3, fw0, fw1, lg_0, lg_1, lg_2, lg_3, lg_4, lg_5, lg_6, lg_7, lg_8, lg_9, lg_10, lg_11, lg_12, lg_13, lg_14, lsq_0, lsl_0, lsq_1, lsl_1, lsq_2, lsl_2, lsq_3, lsl_3, lsq_4, lsl_4, lsq_5, lsl_5, lsq_6, lsl_6, lsq_7, lsl_7, lsq_8, lsl_8, lsq_9, lsl_9, lsq_10, lsl_10, lsq_11, lsl_11, lsq_12, lsl_12, lsq_13, lsl_13, lsq_14, lsl_14, tk_0, tk_1, tk_2, tk_3, tk_4, tk_5, tk_6, tk_7, tk_8, cs_n, cs_i, cs_l, cs_r, cs_u, nl, rt_s, rt_n, CST1, Nat.reduceAdd, Nat.reduceLeDiff, va_rf, rtOk, Bool.false_eq_true, Bool.true_eq_false, if_false, if_true, ite_true, ite_false, true_and, and_true, eq_self, ne_eq, not_false_eq_true, not_true_eq_false, false_implies, true_implies, and_self, reduceCtorEq, Nat.reduceBEq, Bool.or_false, Bool.false_or, Bool.or_true, Bool.true_or, if1_0, if1_1, if1_01, one_01, zer_01, lg_cmp_ge, lg_cmp_le, lg_cmp_gt, lg_cmp_lt, lg_cmp_eq, Classical.not_not, SHm hS, SHr hS, hq, if_if, ea, va, eb, vb, r1]
    refine ⟨fun q3 => ?_, fun q3 => hk3 a' b' ha hb rfl rfl q2 q3⟩
    have hv := eqb q3
    refine hk4 a' b' ha hb rfl rfl q2 q3 _ ⟨fun x hx => by rw [s2_n (by omega), s2_n (by omega)]; exact x1 x hx, P_turn x2 ha hb hab hv (by rw [← hN.2.2.2.1 a' b' ha hb]; exact hv) (fun x => ?_), by ((try simp (disch := omega) only [s2_y, s2_n, rg_y, rg_n, fl_y, fl_n]); (try with_reducible rfl); (try assumption)), fun e he => ?_, ?_, fun x y hx hy => ?_⟩ (fun x k z1 z2 => by ((try simp (disch := omega) only [s2_y, s2_n, rg_y, rg_n, fl_y, fl_n]); (try with_reducible rfl); (try assumption)))
    · by_cases q5 : x = a'
      · rw [if_pos q5, q5]; ((try simp (disch := omega) only [s2_y, s2_n, rg_y, rg_n, fl_y, fl_n]); (try with_reducible rfl); (try assumption))
      · by_cases q6 : x = b'
        · rw [if_neg q5, if_pos q6, q6]; ((try simp (disch := omega) only [s2_y, s2_n, rg_y, rg_n, fl_y, fl_n]); (try with_reducible rfl); (try assumption))
        · rw [if_neg q5, if_neg q6]; ((try simp (disch := omega) only [s2_y, s2_n, rg_y, rg_n, fl_y, fl_n]); (try with_reducible rfl); (try assumption))
    · rw [s2_n (by omega), s2_n (by omega), s2_n (by omega), s2_n (by omega)]; exact x4 e he
    · rw [s2_n (by omega), s2_n (by omega)]; exact x5
    · rw [s2_n (by omega), s2_n (by omega)]; exact x6 x y hx hy
set_option maxHeartbeats 4000000 in
set_option maxRecDepth 100000 in
theorem b_post {a b : Int32} {p : Prop} [Decidable p] (hS : Sh mu ro) (hd : 4 ≤ d) (hI : I_nt sg) (hk : ∀ r sg2, I_nt sg2 → Fr [1] sg sg2 → K r sg2) : aCall d 95 [.ref 0, .int a, .int b, .int (if p then 1 else 0)] n mu ro sg (fun r1 sg1 => aCall d 168 [.ref 48, .int a, .int b, .int (if p then 1 else 0)] n mu ro sg1 (fun r2 sg2 => r1 = r2 ∧ K r1 sg2)) := by
  obtain ⟨R, P, D, dA, dB, S, hN, hX, hM⟩ := id hI
  refine c_post hS hd hN hX (fun q => ?_) (fun a' b' ha hb ea eb q2 q => ?_) (fun a' b' ha hb ea eb q2 q σ h1 h2 => ?_)
  · exact m_post hS hd hN hM (fun _ => ⟨rfl, hk _ _ hI Fr.rfl⟩) (fun a' b' g1 g2 g3 g4 g5 => absurd ⟨a', b', g1, g2, g3, g4, g5⟩ q) (fun a' b' g1 g2 g3 g4 g5 => absurd ⟨a', b', g1, g2, g3, g4, g5⟩ q)
  · refine m_post hS hd hN hM (fun z => absurd ⟨a', b', ha, hb, ea, eb, q2⟩ z) (fun _ _ _ _ _ _ _ _ => ⟨rfl, hk _ _ hI Fr.rfl⟩) (fun a2 b2 g1 g2 g3 g4 g5 g6 => ?_)
    have z1 : a' = a2 := nI_inj (by omega) (by omega) ea g3
    have z2 : b' = b2 := nI_inj (by omega) (by omega) eb g4
    subst z1 z2
    exact absurd q g6
  · refine m_post hS hd hN (h2.m hM) (fun z => absurd ⟨a', b', ha, hb, ea, eb, q2⟩ z) (fun a2 b2 g1 g2 g3 g4 g5 g6 => ?_) (fun a2 b2 g1 g2 g3 g4 g5 g6 σ2 g7 g8 => ?_)
    · have z1 : a' = a2 := nI_inj (by omega) (by omega) ea g3
      have z2 : b' = b2 := nI_inj (by omega) (by omega) eb g4
      subst z1 z2
      exact absurd g6 q
    · have z1 : a' = a2 := nI_inj (by omega) (by omega) ea g3
      have z2 : b' = b2 := nI_inj (by omega) (by omega) eb g4
      subst z1 z2
      exact ⟨rfl, hk _ _ ⟨_, _, _, _, _, _, hN.post ha hb q2, g8.c h1, g7⟩ (fr_net h2 g8)⟩
end H44
