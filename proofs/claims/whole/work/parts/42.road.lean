/-! part 42: road on both sides -/
section H42
variable {d n N : Nat} {mu : aM} {ro : aR} {sg : aS} {K : Option Value → aS → Prop} {R P : Nat → Nat → Bool} {D : Nat} {dA dB : Nat → Nat} {S : Nat → Bool}
theorem seE_c {a b : Nat} {v : Bool} : seE R a b v = seE R b a v := by
  funext x y
  unfold seE
  by_cases h : (x = a ∧ y = b) ∨ (x = b ∧ y = a)
  · rw [if_pos h, if_pos h.symm]
  · rw [if_neg h, if_neg (fun z => h z.symm)]
theorem seE_a {a b j : Nat} {v : Bool} (hab : a ≠ b) : seE R a b v a j = if j = b then v else R a j := by
  unfold seE
  by_cases h : j = b
  · rw [if_pos h, if_pos (Or.inl ⟨rfl, h⟩)]
  · rw [if_neg h, if_neg (by omega)]
theorem seE_o {a b x : Nat} {v : Bool} (h1 : x ≠ a) (h2 : x ≠ b) (j : Nat) : seE R a b v x j = R x j := by
  unfold seE
  rw [if_neg (by omega)]
theorem rs_or {w : Int32} {a b : Nat} (h : rwO w 10 (R a)) (hb : b < 10) (hab : a ≠ b) : rwO (w ||| (1 <<< (nI b &&& 31))) 10 (seE R a b true a) := by
  refine rw_cg (rw_or h (rw_bit hb (by omega))) (fun j hj => ?_)
  rw [seE_a hab]
  by_cases q : j = b
  · rw [if_pos q, decide_eq_true q, Bool.or_true]
  · rw [if_neg q, decide_eq_false q, Bool.or_false]
theorem rs_an {w : Int32} {a b : Nat} (h : rwO w 10 (R a)) (hb : b < 10) (hab : a ≠ b) : rwO (w &&& ((1 <<< (nI b &&& 31)) ^^^ -1)) 10 (seE R a b false a) := by
  refine rw_cg (rw_an h (rw_bit hb (by omega))) (fun j hj => ?_)
  rw [seE_a hab]
  by_cases q : j = b
  · rw [if_pos q, decide_eq_true q, Bool.not_true, Bool.and_false]
  · rw [if_neg q, decide_eq_false q, Bool.not_false, Bool.and_true]
theorem rs_xo {w : Int32} {a b : Nat} {v : Bool} (h : rwO w 10 (R a)) (hb : b < 10) (hab : a ≠ b) (hv : R a b = !v) : rwO (w ^^^ (1 <<< (nI b &&& 31))) 10 (seE R a b v a) := by
  refine rw_cg (rw_xor h (rw_bit hb (by omega))) (fun j hj => ?_)
  rw [seE_a hab]
  by_cases q : j = b
  · rw [if_pos q, decide_eq_true q, q, hv]
    cases v <;> rfl
  · rw [if_neg q, decide_eq_false q, Bool.xor_false]
theorem Nt.road {a b : Nat} {v : Bool} (h : Nt R P D dA dB S) (hab : a ≠ b) : Nt (seE R a b v) (seE P a b false) D dA dB (ofD dA dB S a b) := by
  obtain ⟨h1, h2, h3, h4, h5, h6, h7, h8⟩ := h
  refine ⟨h1, fun x y hx hy => ?_, fun x hx => ?_, fun x y hx hy => ?_, fun x y hx hy q => ?_, h6, h7, fun e he q => ?_⟩
  · unfold seE
    by_cases z : (x = a ∧ y = b) ∨ (x = b ∧ y = a)
    · rw [if_pos z, if_pos (by omega)]
    · rw [if_neg z, if_neg (by omega), h2 x y hx hy]
  · unfold seE
    rw [if_neg (by omega)]
    exact h3 x hx
  · unfold seE
    by_cases z : (x = a ∧ y = b) ∨ (x = b ∧ y = a)
    · rw [if_pos z, if_pos (by omega)]
    · rw [if_neg z, if_neg (by omega), h4 x y hx hy]
  · unfold seE at q ⊢
    by_cases z : (x = a ∧ y = b) ∨ (x = b ∧ y = a)
    · rw [if_pos z] at q
      exact absurd q (by decide)
    · rw [if_neg z] at q ⊢
      exact h5 x y hx hy q
  · unfold ofD at q
    simp only [Bool.and_eq_true, Bool.not_eq_true', decide_eq_false_iff_not] at q
    obtain ⟨u1, u2⟩ := h8 e he q.1
    refine ⟨u1, ?_⟩
    unfold seE
    rw [if_neg q.2]
    exact u2
/-- doors stay as they are where nothing of the sort was shut -/
theorem ofD_s {a b : Nat} (h : Nt R P D dA dB S) (ha : a < 10) (hb : b < 10) (hR : R a b = false) : ∀ e, e < 8 → S e = ofD dA dB S a b e := by
  intro e he
  unfold ofD
  cases q : S e with
  | false => rw [Bool.false_and]
  | true =>
    have u := (h.2.2.2.2.2.2.2 e he q).2
    rw [decide_eq_false, Bool.not_false, Bool.and_true]
    rintro (⟨z1, z2⟩ | ⟨z1, z2⟩)
    · rw [z1, z2, hR] at u
      exact absurd u (by decide)
    · rw [z1, z2, ← h.2.1 a b ha hb, hR] at u
      exact absurd u (by decide)
theorem ofD_n {a b : Nat} (h : Nt R P D dA dB S) (hn : ∀ e, e < D → ¬ prD dA dB e a b) : ∀ e, e < 8 → S e = ofD dA dB S a b e := by
  intro e he
  unfold ofD
  cases q : S e with
  | false => rw [Bool.false_and]
  | true =>
    have u := (h.2.2.2.2.2.2.2 e he q).1
    rw [decide_eq_false (show ¬ ((dA e = a ∧ dB e = b) ∨ (dA e = b ∧ dB e = a)) from hn e u), Bool.not_false, Bool.and_true]
theorem ofD_y {a b e0 : Nat} (h : Nt R P D dA dB S) (he0 : e0 < D) (hp : prD dA dB e0 a b) : ∀ e, e < 8 → (S e && !decide (e = e0)) = ofD dA dB S a b e := by
  intro e he
  unfold ofD
  cases q : S e with
  | false => rw [Bool.false_and, Bool.false_and]
  | true =>
    have u := (h.2.2.2.2.2.2.2 e he q).1
    by_cases z : e = e0
    · subst z
      rw [decide_eq_true rfl, decide_eq_true (show (dA e = a ∧ dB e = b) ∨ (dA e = b ∧ dB e = a) from hp)]
    · rw [decide_eq_false z, decide_eq_false]
      intro y
      refine z (h.2.2.2.2.2.2.1 e e0 u he0 ?_)
      unfold prD at hp ⊢
      omega
theorem C_lay {s : aS} {a b c : Nat} (hX : C_nt s R P D dA dB S) (hN : Nt R P D dA dB S) (ha : a < 10) (hb : b < 10) (hab : a ≠ b) (hR : R a b = false) (hc : s 1 8 = nI c) (hc2 : 2 * c = smR R 10) : C_nt (s2 (s2 (s2 s 2 a (s 2 a ||| (1 <<< (nI b &&& 31)))) 2 b (s 2 b ||| (1 <<< (nI a &&& 31)))) 1 8 (nI (c + 1))) (seE R a b true) (seE P a b false) D dA dB (ofD dA dB S a b) := by
  obtain ⟨x1, x2, x3, x4, x5, x6⟩ := hX
  have hR2 : R b a = false := by rw [← hN.2.1 a b ha hb]; exact hR
  refine ⟨fun x hx => ?_, fun x hx => ?_, by ((try simp (disch := omega) only [s2_y, s2_n, rg_y, rg_n, fl_y, fl_n]); (try with_reducible rfl); (try assumption)), fun e he => ?_, ?_, c + 1, by ((try simp (disch := omega) only [s2_y, s2_n, rg_y, rg_n, fl_y, fl_n]); (try with_reducible rfl); (try assumption)), ?_⟩
  · by_cases q1 : x = a
    · subst q1
      rw [s2_n (by omega), s2_n (by omega), s2_y ⟨rfl, rfl⟩]
      exact rs_or (x1 x ha) hb hab
    · by_cases q2 : x = b
      · subst q2
        rw [s2_n (by omega), s2_y ⟨rfl, rfl⟩, seE_c]
        exact rs_or (x1 x hb) ha hab.symm
      · rw [s2_n (by omega), s2_n (by omega), s2_n (by omega)]
        exact rw_cg (x1 x hx) (fun j _ => (seE_o q1 q2 j).symm)
  · rw [s2_n (by omega), s2_n (by omega), s2_n (by omega)]
    refine rw_cg (x2 x hx) (fun j hj => ?_)
    unfold seE
    by_cases z : (x = a ∧ j = b) ∨ (x = b ∧ j = a)
    · rw [if_pos z, ← Bool.not_eq_true]
      intro y
      have := hN.2.2.2.2.1 x j hx hj y
      rcases z with ⟨rfl, rfl⟩ | ⟨rfl, rfl⟩
      · rw [hR] at this; exact absurd this (by decide)
      · rw [hR2] at this; exact absurd this (by decide)
    · rw [if_neg z]
  · rw [s2_n (by omega), s2_n (by omega), s2_n (by omega), s2_n (by omega), s2_n (by omega), s2_n (by omega)]
    exact x4 e he
  · rw [s2_n (by omega), s2_n (by omega), s2_n (by omega)]
    exact rw_cg x5 (ofD_s hN ha hb hR)
  · have := smR_up (R := seE R a b true) (R' := R) ha hb hab (fun x y z => by unfold seE; rw [if_neg z]) ⟨by rw [seE_a hab, if_pos rfl], by rw [seE_c, seE_a hab.symm, if_pos rfl]⟩ ⟨hR, hR2⟩ 10
    rw [if_pos ha, if_pos hb] at this
    omega
theorem C_take {s s' : aS} {a b c : Nat} (hX : C_nt s R P D dA dB S) (hN : Nt R P D dA dB S) (ha : a < 10) (hb : b < 10) (hab : a ≠ b) (hR : R a b = true) (hc2 : 2 * (c + 1) = smR R 10)
    (e2 : ∀ x, s' 2 x = if x = a then s 2 a &&& ((1 <<< (nI b &&& 31)) ^^^ -1) else if x = b then s 2 b &&& ((1 <<< (nI a &&& 31)) ^^^ -1) else s 2 x) (e3 : ∀ x, s' 3 x = if x = a then s 3 a &&& ((1 <<< (nI b &&& 31)) ^^^ -1) else if x = b then s 3 b &&& ((1 <<< (nI a &&& 31)) ^^^ -1) else s 3 x)
    (e8 : s' 1 8 = nI c) (e9 : s' 1 9 = s 1 9) (e4 : ∀ e, s' 4 e = s 4 e ∧ s' 5 e = s 5 e) (e10 : rwO (s' 1 10) 8 (ofD dA dB S a b)) : C_nt s' (seE R a b false) (seE P a b false) D dA dB (ofD dA dB S a b) := by
  obtain ⟨x1, x2, x3, x4, x5, x6⟩ := hX
  have hR2 : R b a = true := by rw [← hN.2.1 a b ha hb]; exact hR
  refine ⟨fun x hx => ?_, fun x hx => ?_, by rw [e9]; exact x3, fun e he => ?_, e10, c, e8, ?_⟩
  · rw [e2]
    by_cases q1 : x = a
    · rw [if_pos q1, q1]
      exact rs_an (x1 a ha) hb hab
    · by_cases q2 : x = b
      · rw [if_neg q1, if_pos q2, q2, seE_c]
        exact rs_an (x1 b hb) ha hab.symm
      · rw [if_neg q1, if_neg q2]
        exact rw_cg (x1 x hx) (fun j _ => (seE_o q1 q2 j).symm)
  · rw [e3]
    by_cases q1 : x = a
    · rw [if_pos q1, q1]
      exact rs_an (x2 a ha) hb hab
    · by_cases q2 : x = b
      · rw [if_neg q1, if_pos q2, q2, seE_c]
        exact rs_an (x2 b hb) ha hab.symm
      · rw [if_neg q1, if_neg q2]
        exact rw_cg (x2 x hx) (fun j _ => (seE_o q1 q2 j).symm)
  · rw [(e4 e).1, (e4 e).2]
    exact x4 e he
  · have := smR_up (R := R) (R' := seE R a b false) ha hb hab (fun x y z => by unfold seE; rw [if_neg z]) ⟨hR, hR2⟩ ⟨by rw [seE_a hab, if_pos rfl], by rw [seE_c, seE_a hab.symm, if_pos rfl]⟩ 10
    rw [if_pos ha, if_pos hb] at this
    omega
set_option maxHeartbeats 4000000 in
set_option maxRecDepth 100000 in
theorem c_road {a b : Int32} {p : Prop} [Decidable p] (hS : Sh mu ro) (hd : 4 ≤ d) (hN : Nt R P D dA dB S) (hX : C_nt sg R P D dA dB S) (hk1 : ¬ ((0 ≤ a.toInt ∧ a.toInt ≤ 9) ∧ (0 ≤ b.toInt ∧ b.toInt ≤ 9)) → K (some (.int (-1))) sg) (hk2 : (0 ≤ a.toInt ∧ a.toInt ≤ 9) ∧ (0 ≤ b.toInt ∧ b.toInt ≤ 9) → a = b → K (some (.int (-2))) sg)
    (hk3 : ∀ a' b' : Nat, a' < 10 → b' < 10 → a' ≠ b' → a = nI a' → b = nI b' → (R a' b' = true ↔ p) → K (some (.int 0)) sg)
    (hk4 : ∀ a' b' : Nat, a' < 10 → b' < 10 → a' ≠ b' → a = nI a' → b = nI b' → ¬ (R a' b' = true ↔ p) → ∀ σ, C_nt σ (seE R a' b' (decide p)) (seE P a' b' false) D dA dB (ofD dA dB S a' b') → (∀ x k, x ≠ 1 → x ≠ 2 → x ≠ 3 → σ x k = sg x k) → K (some (.int 1)) σ) : aCall d 94 [.ref 0, .int a, .int b, .int (if p then 1 else 0)] n mu ro sg K := by
  refine aCall_start (mL := 4) (cc := cX11_road) (o := 11) (ret := (some .int)) 0 (by decide) (by decide +kernel) rfl rfl rfl rfl (Nat.le_of_ble_eq_true rfl) (fun G hC hG => ?_)
  simp only [exL, List.cons_append, List.nil_append, rp_0, rp_1, rp_2, rp_3, rp_4, rp_5, rp_6, rp_7, rp_8, rp_9, rp_10, rp_11, List.append_nil]
  refine hG (fun _ => false) 80 _ _ _ _ (Nat.le_of_ble_eq_true rfl) ?_
  simp only [D_X11_road, N_X11_road, ↓reduceIte, vcS, vcC, vcI, gtF, ptF, inS, inV, fv0, fv1, fv2, fv3, fw0, fw1, lg_0, lg_1, lg_2, lg_3, lg_4, lg_5, lg_6, lg_7, lg_8, lg_9, lg_10, lg_11, lg_12, lg_13, lg_14, lsq_0, lsl_0, lsq_1, lsl_1, lsq_2, lsl_2, lsq_3, lsl_3, lsq_4, lsl_4, lsq_5, lsl_5, lsq_6, lsl_6, lsq_7, lsl_7, lsq_8, lsl_8, lsq_9, lsl_9, lsq_10, lsl_10, lsq_11, lsl_11, lsq_12, lsl_12, lsq_13, lsl_13, lsq_14, lsl_14, tk_0, tk_1, tk_2, tk_3, tk_4, tk_5, tk_6, tk_7, tk_8, cs_n, cs_i, cs_l, cs_r, cs_u, nl, rt_s, rt_n, CST1, Nat.reduceAdd, Nat.reduceLeDiff, va_rf, rtOk, Bool.false_eq_true, Bool.true_eq_false, if_false, if_true, ite_true, ite_false, true_and, and_true, eq_self, ne_eq, not_false_eq_true, not_true_eq_false, false_implies, true_implies, and_self, reduceCtorEq, Nat.reduceBEq, Bool.or_false, Bool.false_or, Bool.or_true, Bool.true_or, if1_0, if1_1, if1_01, one_01, zer_01, lg_cmp_ge, lg_cmp_le, lg_cmp_gt, lg_cmp_lt, lg_cmp_eq, Classical.not_not, SHm hS, SHr hS]
  refine ⟨by omega, c_areMachines (by omega) ?_⟩
  simp only [D_X11_road, N_X11_road, ↓reduceIte, vcS, vcC, vcI, gtF, ptF, inS, inV, fv0, fv1, fv2, fv3, fw0, fw1, lg_0, lg_1, lg_2, lg_3, lg_4, lg_5, lg_6, lg_7, lg_8, lg_9, lg_10, lg_11, lg_12, lg_13, lg_14, lsq_0, lsl_0, lsq_1, lsl_1, lsq_2, lsl_2, lsq_3, lsl_3, lsq_4, lsl_4, lsq_5, lsl_5, lsq_6, lsl_6, lsq_7, lsl_7, lsq_8, lsl_8, lsq_9, lsl_9, lsq_10, lsl_10, lsq_11, lsl_11, lsq_12, lsl_12, lsq_13, lsl_13, lsq_14, lsl_14, tk_0, tk_1, tk_2, tk_3, tk_4, tk_5, tk_6, tk_7, tk_8, cs_n, cs_i, cs_l, cs_r, cs_u, nl, rt_s, rt_n, CST1, Nat.reduceAdd, Nat.reduceLeDiff, va_rf, rtOk, Bool.false_eq_true, Bool.true_eq_false, if_false, if_true, ite_true, ite_false, true_and, and_true, eq_self, ne_eq, not_false_eq_true, not_true_eq_false, false_implies, true_implies, and_self, reduceCtorEq, Nat.reduceBEq, Bool.or_false, Bool.false_or, Bool.or_true, Bool.true_or, if1_0, if1_1, if1_01, one_01, zer_01, lg_cmp_ge, lg_cmp_le, lg_cmp_gt, lg_cmp_lt, lg_cmp_eq, Classical.not_not, SHm hS, SHr hS]
  refine ⟨fun q => ⟨fun q2 => ⟨by omega, ?_⟩, fun q2 => hk2 q q2⟩, fun q => hk1 q⟩
  obtain ⟨a', ha', rfl⟩ := i_of (x := a) (N := 9) q.1.1 q.1.2 (by decide)
  obtain ⟨b', hb', rfl⟩ := i_of (x := b) (N := 9) q.2.1 q.2.2 (by decide)
  have hab : a' ≠ b' := fun z => q2 (by rw [z])
  refine c_hasRoad hS (by omega) (by omega) (hX.1 a' (by omega)) ?_
  simp only [D_X11_road, N_X11_road, ↓reduceIte, vcS, vcC, vcI, gtF, ptF, inS, inV, fv0, fv1, fv2, fv3, fw0, fw1, lg_0, lg_1, lg_2, lg_3, lg_4, lg_5, lg_6, lg_7, lg_8, lg_9, lg_10, lg_11, lg_12, lg_13, lg_14, lsq_0, lsl_0, lsq_1, lsl_1, lsq_2, lsl_2, lsq_3, lsl_3, lsq_4, lsl_4, lsq_5, lsl_5, lsq_6, lsl_6, lsq_7, lsl_7, lsq_8, lsl_8, lsq_9, lsl_9, lsq_10, lsl_10, lsq_11, lsl_11, lsq_12, lsl_12, lsq_13, lsl_13, lsq_14, lsl_14, tk_0, tk_1, tk_2, tk_3, tk_4, tk_5, tk_6, tk_7, tk_8, cs_n, cs_i, cs_l, cs_r, cs_u, nl, rt_s, rt_n, CST1, Nat.reduceAdd, Nat.reduceLeDiff, va_rf, rtOk, Bool.false_eq_true, Bool.true_eq_false, if_false, if_true, ite_true, ite_false, true_and, and_true, eq_self, ne_eq, not_false_eq_true, not_true_eq_false, false_implies, true_implies, and_self, reduceCtorEq, Nat.reduceBEq, Bool.or_false, Bool.false_or, Bool.or_true, Bool.true_or, if1_0, if1_1, if1_01, one_01, zer_01, lg_cmp_ge, lg_cmp_le, lg_cmp_gt, lg_cmp_lt, lg_cmp_eq, Classical.not_not, SHm hS, SHr hS, if_if]
  refine ⟨fun q3 => ?_, fun q3 => hk3 a' b' (by omega) (by omega) hab rfl rfl q3⟩
  have hk5 := hk4 a' b' (by omega) (by omega) hab rfl rfl q3
  obtain ⟨x1, x2, x3, x4, x5, c, x6, x7⟩ := id hX
  have hE : ∀ e, e < D → sg 4 e = nI (dA e) ∧ sg 5 e = nI (dB e) ∧ dA e < 10 ∧ dB e < 10 := fun e he => ⟨(x4 e he).1, (x4 e he).2, (hN.2.2.2.2.2.1 e he).1, (hN.2.2.2.2.2.1 e he).2.1⟩
  refine ⟨fun q4 => ⟨by omega, ?_⟩, fun q4 => ⟨by omega, ?_⟩⟩
  · have hR : R a' b' = true := by
      cases z : R a' b' with
      | true => rfl
      | false => exact absurd ⟨fun y => absurd y (by rw [z]; decide), fun y => absurd y q4⟩ q3
    have hc0 : c ≠ 0 := by
      intro z
      have := smR_up (R := R) (R' := seE R a' b' false) (by omega) (by omega) hab (fun x y z => by unfold seE; rw [if_neg z]) ⟨hR, by rw [← hN.2.1 a' b' (by omega) (by omega)]; exact hR⟩ ⟨by rw [seE_a hab, if_pos rfl], by rw [seE_c, seE_a hab.symm, if_pos rfl]⟩ 10
      rw [if_pos (by omega), if_pos (by omega)] at this
      omega
    rw [show c = c - 1 + 1 by omega] at x6
    rw [decide_eq_false q4] at hk5
    refine c_takeRoad (D := D) (dA := dA) (dB := dB) hS (by omega) (by omega) (by omega) hab x6 x3 hN.1 hE (fun h => ?_) (fun e he h => ?_)
    · simp only [D_X11_road, N_X11_road, ↓reduceIte, vcS, vcC, vcI, gtF, ptF, inS, inV, fv0, fv1, fv2, fv3, fw0, fw1, lg_0, lg_1, lg_2, lg_3, lg_4, lg_5, lg_6, lg_7, lg_8, lg_9, lg_10, lg_11, lg_12, lg_13, lg_14, lsq_0, lsl_0, lsq_1, lsl_1, lsq_2, lsl_2, lsq_3, lsl_3, lsq_4, lsl_4, lsq_5, lsl_5, lsq_6, lsl_6, lsq_7, lsl_7, lsq_8, lsl_8, lsq_9, lsl_9, lsq_10, lsl_10, lsq_11, lsl_11, lsq_12, lsl_12, lsq_13, lsl_13, lsq_14, lsl_14, tk_0, tk_1, tk_2, tk_3, tk_4, tk_5, tk_6, tk_7, tk_8, cs_n, cs_i, cs_l, cs_r, cs_u, nl, rt_s, rt_n, CST1, Nat.reduceAdd, Nat.reduceLeDiff, va_rf, rtOk, Bool.false_eq_true, Bool.true_eq_false, if_false, if_true, ite_true, ite_false, true_and, and_true, eq_self, ne_eq, not_false_eq_true, not_true_eq_false, false_implies, true_implies, and_self, reduceCtorEq, Nat.reduceBEq, Bool.or_false, Bool.false_or, Bool.or_true, Bool.true_or, if1_0, if1_1, if1_01, one_01, zer_01, lg_cmp_ge, lg_cmp_le, lg_cmp_gt, lg_cmp_lt, lg_cmp_eq, Classical.not_not, SHm hS, SHr hS]
      refine hk5 _ (C_take (c := c - 1) hX hN (by omega) (by omega) hab hR (by omega) (fun x => ?_) (fun x => ?_) (by ((try simp (disch := omega) only [s2_y, s2_n, rg_y, rg_n, fl_y, fl_n]); (try with_reducible rfl); (try assumption))) (by ((try simp (disch := omega) only [s2_y, s2_n, rg_y, rg_n, fl_y, fl_n]); (try with_reducible rfl); (try assumption))) (fun e => ⟨by ((try simp (disch := omega) only [s2_y, s2_n, rg_y, rg_n, fl_y, fl_n]); (try with_reducible rfl); (try assumption)), by ((try simp (disch := omega) only [s2_y, s2_n, rg_y, rg_n, fl_y, fl_n]); (try with_reducible rfl); (try assumption))⟩) ?_) (fun x k y1 y2 y3 => by ((try simp (disch := omega) only [s2_y, s2_n, rg_y, rg_n, fl_y, fl_n]); (try with_reducible rfl); (try assumption)))
      · by_cases q5 : x = a'
        · rw [if_pos q5, q5]; ((try simp (disch := omega) only [s2_y, s2_n, rg_y, rg_n, fl_y, fl_n]); (try with_reducible rfl); (try assumption))
        · by_cases q6 : x = b'
          · rw [if_neg q5, if_pos q6, q6]; ((try simp (disch := omega) only [s2_y, s2_n, rg_y, rg_n, fl_y, fl_n]); (try with_reducible rfl); (try assumption))
          · rw [if_neg q5, if_neg q6]; ((try simp (disch := omega) only [s2_y, s2_n, rg_y, rg_n, fl_y, fl_n]); (try with_reducible rfl); (try assumption))
      · by_cases q5 : x = a'
        · rw [if_pos q5, q5]; ((try simp (disch := omega) only [s2_y, s2_n, rg_y, rg_n, fl_y, fl_n]); (try with_reducible rfl); (try assumption))
        · by_cases q6 : x = b'
          · rw [if_neg q5, if_pos q6, q6]; ((try simp (disch := omega) only [s2_y, s2_n, rg_y, rg_n, fl_y, fl_n]); (try with_reducible rfl); (try assumption))
          · rw [if_neg q5, if_neg q6]; ((try simp (disch := omega) only [s2_y, s2_n, rg_y, rg_n, fl_y, fl_n]); (try with_reducible rfl); (try assumption))
      · rw [s2_n (by omega), s2_n (by omega), s2_n (by omega), s2_n (by omega), s2_n (by omega)]
        exact rw_cg x5 (ofD_n hN h)
    · simp only [D_X11_road, N_X11_road, ↓reduceIte, vcS, vcC, vcI, gtF, ptF, inS, inV, fv0, fv1, fv2, fv3, fw0, fw1, lg_0, lg_1, lg_2, lg_3, lg_4, lg_5, lg_6, lg_7, lg_8, lg_9, lg_10, lg_11, lg_12, lg_13, lg_14, lsq_0, lsl_0, lsq_1, lsl_1, lsq_2, lsl_2, lsq_3, lsl_3, lsq_4, lsl_4, lsq_5, lsl_5, lsq_6, lsl_6, lsq_7, lsl_7, lsq_8, lsl_8, lsq_9, lsl_9, lsq_10, lsl_10, lsq_11, lsl_11, lsq_12, lsl_12, lsq_13, lsl_13, lsq_14, lsl_14, tk_0, tk_1, tk_2, tk_3, tk_4, tk_5, tk_6, tk_7, tk_8, cs_n, cs_i, cs_l, cs_r, cs_u, nl, rt_s, rt_n, CST1, Nat.reduceAdd, Nat.reduceLeDiff, va_rf, rtOk, Bool.false_eq_true, Bool.true_eq_false, if_false, if_true, ite_true, ite_false, true_and, and_true, eq_self, ne_eq, not_false_eq_true, not_true_eq_false, false_implies, true_implies, and_self, reduceCtorEq, Nat.reduceBEq, Bool.or_false, Bool.false_or, Bool.or_true, Bool.true_or, if1_0, if1_1, if1_01, one_01, zer_01, lg_cmp_ge, lg_cmp_le, lg_cmp_gt, lg_cmp_lt, lg_cmp_eq, Classical.not_not, SHm hS, SHr hS]
      refine hk5 _ (C_take (c := c - 1) hX hN (by omega) (by omega) hab hR (by omega) (fun x => ?_) (fun x => ?_) (by ((try simp (disch := omega) only [s2_y, s2_n, rg_y, rg_n, fl_y, fl_n]); (try with_reducible rfl); (try assumption))) (by ((try simp (disch := omega) only [s2_y, s2_n, rg_y, rg_n, fl_y, fl_n]); (try with_reducible rfl); (try assumption))) (fun e => ⟨by ((try simp (disch := omega) only [s2_y, s2_n, rg_y, rg_n, fl_y, fl_n]); (try with_reducible rfl); (try assumption)), by ((try simp (disch := omega) only [s2_y, s2_n, rg_y, rg_n, fl_y, fl_n]); (try with_reducible rfl); (try assumption))⟩) ?_) (fun x k y1 y2 y3 => by ((try simp (disch := omega) only [s2_y, s2_n, rg_y, rg_n, fl_y, fl_n]); (try with_reducible rfl); (try assumption)))
      · by_cases q5 : x = a'
        · rw [if_pos q5, q5]; ((try simp (disch := omega) only [s2_y, s2_n, rg_y, rg_n, fl_y, fl_n]); (try with_reducible rfl); (try assumption))
        · by_cases q6 : x = b'
          · rw [if_neg q5, if_pos q6, q6]; ((try simp (disch := omega) only [s2_y, s2_n, rg_y, rg_n, fl_y, fl_n]); (try with_reducible rfl); (try assumption))
          · rw [if_neg q5, if_neg q6]; ((try simp (disch := omega) only [s2_y, s2_n, rg_y, rg_n, fl_y, fl_n]); (try with_reducible rfl); (try assumption))
      · by_cases q5 : x = a'
        · rw [if_pos q5, q5]; ((try simp (disch := omega) only [s2_y, s2_n, rg_y, rg_n, fl_y, fl_n]); (try with_reducible rfl); (try assumption))
        · by_cases q6 : x = b'
          · rw [if_neg q5, if_pos q6, q6]; ((try simp (disch := omega) only [s2_y, s2_n, rg_y, rg_n, fl_y, fl_n]); (try with_reducible rfl); (try assumption))
          · rw [if_neg q5, if_neg q6]; ((try simp (disch := omega) only [s2_y, s2_n, rg_y, rg_n, fl_y, fl_n]); (try with_reducible rfl); (try assumption))
      · rw [s2_y ⟨rfl, rfl⟩]
        exact rw_cg (rw_an x5 (rw_bit (show e < 8 by have := hN.1; omega) (by omega))) (ofD_y hN he h)
  · have hR : R a' b' = false := by
      cases z : R a' b' with
      | false => rfl
      | true => exact absurd ⟨fun _ => q4, fun _ => z⟩ q3
    rw [decide_eq_true q4] at hk5
    refine c_layRoad hS (by omega) (by omega) hab x6 ?_
    simp only [D_X11_road, N_X11_road, ↓reduceIte, vcS, vcC, vcI, gtF, ptF, inS, inV, fv0, fv1, fv2, fv3, fw0, fw1, lg_0, lg_1, lg_2, lg_3, lg_4, lg_5, lg_6, lg_7, lg_8, lg_9, lg_10, lg_11, lg_12, lg_13, lg_14, lsq_0, lsl_0, lsq_1, lsl_1, lsq_2, lsl_2, lsq_3, lsl_3, lsq_4, lsl_4, lsq_5, lsl_5, lsq_6, lsl_6, lsq_7, lsl_7, lsq_8, lsl_8, lsq_9, lsl_9, lsq_10, lsl_10, lsq_11, lsl_11, lsq_12, lsl_12, lsq_13, lsl_13, lsq_14, lsl_14, tk_0, tk_1, tk_2, tk_3, tk_4, tk_5, tk_6, tk_7, tk_8, cs_n, cs_i, cs_l, cs_r, cs_u, nl, rt_s, rt_n, CST1, Nat.reduceAdd, Nat.reduceLeDiff, va_rf, rtOk, Bool.false_eq_true, Bool.true_eq_false, if_false, if_true, ite_true, ite_false, true_and, and_true, eq_self, ne_eq, not_false_eq_true, not_true_eq_false, false_implies, true_implies, and_self, reduceCtorEq, Nat.reduceBEq, Bool.or_false, Bool.false_or, Bool.or_true, Bool.true_or, if1_0, if1_1, if1_01, one_01, zer_01, lg_cmp_ge, lg_cmp_le, lg_cmp_gt, lg_cmp_lt, lg_cmp_eq, Classical.not_not, SHm hS, SHr hS]
    exact hk5 _ (C_lay hX hN (by omega) (by omega) hab hR x6 x7) (fun x k y1 y2 y3 => by ((try simp (disch := omega) only [s2_y, s2_n, rg_y, rg_n, fl_y, fl_n]); (try with_reducible rfl); (try assumption)))
end H42
