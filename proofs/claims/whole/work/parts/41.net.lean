/-! part 41: the net: roads, posts, doors; road on both sides -/
section H41
variable {d n N : Nat} {mu : aM} {ro : aR} {sg : aS} {K : Option Value → aS → Prop}
def prD (dA dB : Nat → Nat) (d a b : Nat) : Prop := (dA d = a ∧ dB d = b) ∨ (dA d = b ∧ dB d = a)
theorem prD_c {dA dB : Nat → Nat} {d a b : Nat} (h : prD dA dB d a b) : prD dA dB d b a := h.elim Or.inr Or.inl
def Nt (R P : Nat → Nat → Bool) (D : Nat) (dA dB : Nat → Nat) (S : Nat → Bool) : Prop := D ≤ 8 ∧ (∀ a b, a < 10 → b < 10 → R a b = R b a) ∧ (∀ a, a < 10 → R a a = false) ∧ (∀ a b, a < 10 → b < 10 → P a b = P b a) ∧ (∀ a b, a < 10 → b < 10 → P a b = true → R a b = true) ∧ (∀ e, e < D → dA e < 10 ∧ dB e < 10 ∧ dA e ≠ dB e) ∧ (∀ e f, e < D → f < D → prD dA dB e (dA f) (dB f) → e = f) ∧ (∀ e, e < 8 → S e = true → e < D ∧ R (dA e) (dB e) = true)
def smB (f : Nat → Bool) : Nat → Nat
  | 0 => 0
  | m + 1 => smB f m + (if f m = true then 1 else 0)
def smR (R : Nat → Nat → Bool) : Nat → Nat
  | 0 => 0
  | m + 1 => smR R m + smB (R m) 10
def C_nt (s : aS) (R P : Nat → Nat → Bool) (D : Nat) (dA dB : Nat → Nat) (S : Nat → Bool) : Prop := (∀ a, a < 10 → rwO (s 2 a) 10 (R a)) ∧ (∀ a, a < 10 → rwO (s 3 a) 10 (P a)) ∧ s 1 9 = nI D ∧ (∀ e, e < D → s 4 e = nI (dA e) ∧ s 5 e = nI (dB e)) ∧ rwO (s 1 10) 8 S ∧ ∃ c, s 1 8 = nI c ∧ 2 * c = smR R 10
def M_nt (s : aS) (R P : Nat → Nat → Bool) (D : Nat) (dA dB : Nat → Nat) (S : Nat → Bool) : Prop := (∀ a, a < 10 → rwO (s 49 a) 10 (R a)) ∧ (∀ a, a < 10 → rwO (s 50 a) 10 (P a)) ∧ s 48 4 = nI D ∧ (∀ e, e < D → s 52 e = nI (dA e) ∧ s 53 e = nI (dB e)) ∧ rwO (s 48 7) 8 S ∧ ∀ a b, a < 10 → b < 10 → (∃ e, e < D ∧ prD dA dB e a b ∧ s 51 (10 * a + b) = nI e) ∨ (s 51 (10 * a + b) = -9 ∧ ∀ e, e < D → ¬ prD dA dB e a b)
def I_nt (s : aS) : Prop := ∃ R P D dA dB S, Nt R P D dA dB S ∧ C_nt s R P D dA dB S ∧ M_nt s R P D dA dB S
def seE (R : Nat → Nat → Bool) (a b : Nat) (v : Bool) : Nat → Nat → Bool := fun x y => if (x = a ∧ y = b) ∨ (x = b ∧ y = a) then v else R x y
def ofD (dA dB : Nat → Nat) (S : Nat → Bool) (a b : Nat) : Nat → Bool := fun e => S e && !decide ((dA e = a ∧ dB e = b) ∨ (dA e = b ∧ dB e = a))
-- how many roads
theorem smB_cg {f g : Nat → Bool} : ∀ m, (∀ j, j < m → f j = g j) → smB f m = smB g m
  | 0, _ => rfl
  | m + 1, h => by rw [smB, smB, smB_cg m (fun j hj => h j (by omega)), h m (by omega)]
theorem smB_up {f g : Nat → Bool} {b : Nat} (h : ∀ j, j ≠ b → f j = g j) (h1 : f b = true) (h2 : g b = false) : ∀ m, smB f m = smB g m + if b < m then 1 else 0
  | 0 => rfl
  | m + 1 => by
    rw [smB, smB, smB_up h h1 h2 m]
    by_cases q : m = b
    · subst q
      rw [h1, h2, if_neg (by omega), if_pos rfl, if_neg (by decide), if_pos (by omega)]
    · rw [h m q]
      by_cases q2 : b < m
      · rw [if_pos q2, if_pos (show b < m + 1 by omega)]; omega
      · rw [if_neg q2, if_neg (show ¬ b < m + 1 by omega)]; omega
theorem smB_le {f : Nat → Bool} : ∀ m, smB f m ≤ m
  | 0 => Nat.le_refl 0
  | m + 1 => by rw [smB]; have := smB_le (f := f) m; split <;> omega
theorem smR_le {R : Nat → Nat → Bool} : ∀ m, smR R m ≤ 10 * m
  | 0 => Nat.le_refl 0
  | m + 1 => by rw [smR]; have := smR_le (R := R) m; have := smB_le (f := R m) 10; omega
theorem smR_up {R R' : Nat → Nat → Bool} {a b : Nat} (ha : a < 10) (hb : b < 10) (hab : a ≠ b) (h : ∀ x y, ¬ ((x = a ∧ y = b) ∨ (x = b ∧ y = a)) → R x y = R' x y) (h1 : R a b = true ∧ R b a = true) (h2 : R' a b = false ∧ R' b a = false) : ∀ m, smR R m = smR R' m + (if a < m then 1 else 0) + (if b < m then 1 else 0)
  | 0 => rfl
  | m + 1 => by
    rw [smR, smR, smR_up ha hb hab h h1 h2 m]
    by_cases q : m = a
    · subst q
      rw [smB_up (f := R m) (g := R' m) (b := b) (fun j hj => h m j (by omega)) h1.1 h2.1 10, if_pos hb]
      rw [if_neg (show ¬ m < m by omega), if_pos (show m < m + 1 by omega)]
      by_cases q2 : b < m
      · rw [if_pos q2, if_pos (by omega)]; omega
      · rw [if_neg q2, if_neg (by omega)]; omega
    · by_cases q3 : m = b
      · subst q3
        rw [smB_up (f := R m) (g := R' m) (b := a) (fun j hj => h m j (by omega)) h1.2 h2.2 10, if_pos ha]
        rw [if_neg (show ¬ m < m by omega), if_pos (show m < m + 1 by omega)]
        by_cases q2 : a < m
        · rw [if_pos q2, if_pos (by omega)]; omega
        · rw [if_neg q2, if_neg (by omega)]; omega
      · rw [smB_cg (f := R m) (g := R' m) 10 (fun j hj => h m j (by omega))]
        have e1 : (if a < m + 1 then 1 else 0) = if a < m then 1 else 0 := by
          by_cases q4 : a < m
          · rw [if_pos q4, if_pos (by omega)]
          · rw [if_neg q4, if_neg (by omega)]
        have e2 : (if b < m + 1 then 1 else 0) = if b < m then 1 else 0 := by
          by_cases q4 : b < m
          · rw [if_pos q4, if_pos (by omega)]
          · rw [if_neg q4, if_neg (by omega)]
        rw [e1, e2]
        omega
-- the class
set_option maxHeartbeats 4000000 in
set_option maxRecDepth 100000 in
theorem c_hasRoad {a b : Nat} {f : Nat → Bool} (hS : Sh mu ro) (ha : a < 10) (hb : b < 10) (hR : rwO (sg 2 a) 10 f) (hk : K (some (.int (if f b = true then 1 else 0))) sg) : aCall d 21 [.ref 1, .int (nI a), .int (nI b)] n mu ro sg K := by
  have ea : (nI a).toNatClampNeg = a := nI_clamp (by omega)
  have va : vp_in (nI a) 10 := vp_in_nI ha (by decide)
  have hq := rw_bt hR hb (by omega)
  refine aCall_start (mL := 3) (cc := cX4_hasRoad) (o := 4) (ret := (some .boolean)) 0 (by decide) (by decide +kernel) rfl rfl rfl rfl (Nat.le_of_ble_eq_true rfl) (fun G hC hG => ?_)
  simp only [exL, List.cons_append, List.nil_append, rp_0, rp_1, rp_2, rp_3, rp_4, rp_5, rp_6, rp_7, rp_8, rp_9, rp_10, rp_11, List.append_nil]
  refine hG (fun _ => false) 60 _ _ _ _ (Nat.le_of_ble_eq_true rfl) ?_
  simp only [D_X4_hasRoad, ↓reduceIte, vcS, vcC, vcI, gtF, ptF, inS, inV, fv0, fv1, fv2, fv3, fw0, fw1, lg_0, lg_1, lg_2, lg_3, lg_4, lg_5, lg_6, lg_7, lg_8, lg_9, lg_10, lg_11, lg_12, lg_13, lg_14, lsq_0, lsl_0, lsq_1, lsl_1, lsq_2, lsl_2, lsq_3, lsl_3, lsq_4, lsl_4, lsq_5, lsl_5, lsq_6, lsl_6, lsq_7, lsl_7, lsq_8, lsl_8, lsq_9, lsl_9, lsq_10, lsl_10, lsq_11, lsl_11, lsq_12, lsl_12, lsq_13, lsl_13, lsq_14, lsl_14, tk_0, tk_1, tk_2, tk_3, tk_4, tk_5, tk_6, tk_7, tk_8, cs_n, cs_i, cs_l, cs_r, cs_u, nl, rt_s, rt_n, CST1, Nat.reduceAdd, Nat.reduceLeDiff, va_rf, rtOk, Bool.false_eq_true, Bool.true_eq_false, if_false, if_true, ite_true, ite_false, true_and, and_true, eq_self, ne_eq, not_false_eq_true, not_true_eq_false, false_implies, true_implies, and_self, reduceCtorEq, Nat.reduceBEq, Bool.or_false, Bool.false_or, Bool.or_true, Bool.true_or, if1_0, if1_1, if1_01, one_01, zer_01, lg_cmp_ge, lg_cmp_le, lg_cmp_gt, lg_cmp_lt, lg_cmp_eq, Classical.not_not, SHm hS, SHr hS, ea, va, bt_ne, hq]
  refine ⟨fun q => ?_, fun q => ?_⟩
  · rw [if_neg q] at hk; exact hk
  · rw [if_pos q] at hk; exact hk
set_option maxHeartbeats 4000000 in
set_option maxRecDepth 100000 in
theorem c_hasPost {a b : Nat} {f : Nat → Bool} (hS : Sh mu ro) (ha : a < 10) (hb : b < 10) (hR : rwO (sg 3 a) 10 f) (hk : K (some (.int (if f b = true then 1 else 0))) sg) : aCall d 22 [.ref 1, .int (nI a), .int (nI b)] n mu ro sg K := by
  have ea : (nI a).toNatClampNeg = a := nI_clamp (by omega)
  have va : vp_in (nI a) 10 := vp_in_nI ha (by decide)
  have hq := rw_bt hR hb (by omega)
  refine aCall_start (mL := 3) (cc := cX4_hasPost) (o := 4) (ret := (some .boolean)) 0 (by decide) (by decide +kernel) rfl rfl rfl rfl (Nat.le_of_ble_eq_true rfl) (fun G hC hG => ?_)
  simp only [exL, List.cons_append, List.nil_append, rp_0, rp_1, rp_2, rp_3, rp_4, rp_5, rp_6, rp_7, rp_8, rp_9, rp_10, rp_11, List.append_nil]
  refine hG (fun _ => false) 60 _ _ _ _ (Nat.le_of_ble_eq_true rfl) ?_
  simp only [D_X4_hasPost, ↓reduceIte, vcS, vcC, vcI, gtF, ptF, inS, inV, fv0, fv1, fv2, fv3, fw0, fw1, lg_0, lg_1, lg_2, lg_3, lg_4, lg_5, lg_6, lg_7, lg_8, lg_9, lg_10, lg_11, lg_12, lg_13, lg_14, lsq_0, lsl_0, lsq_1, lsl_1, lsq_2, lsl_2, lsq_3, lsl_3, lsq_4, lsl_4, lsq_5, lsl_5, lsq_6, lsl_6, lsq_7, lsl_7, lsq_8, lsl_8, lsq_9, lsl_9, lsq_10, lsl_10, lsq_11, lsl_11, lsq_12, lsl_12, lsq_13, lsl_13, lsq_14, lsl_14, tk_0, tk_1, tk_2, tk_3, tk_4, tk_5, tk_6, tk_7, tk_8, cs_n, cs_i, cs_l, cs_r, cs_u, nl, rt_s, rt_n, CST1, Nat.reduceAdd, Nat.reduceLeDiff, va_rf, rtOk, Bool.false_eq_true, Bool.true_eq_false, if_false, if_true, ite_true, ite_false, true_and, and_true, eq_self, ne_eq, not_false_eq_true, not_true_eq_false, false_implies, true_implies, and_self, reduceCtorEq, Nat.reduceBEq, Bool.or_false, Bool.false_or, Bool.or_true, Bool.true_or, if1_0, if1_1, if1_01, one_01, zer_01, lg_cmp_ge, lg_cmp_le, lg_cmp_gt, lg_cmp_lt, lg_cmp_eq, Classical.not_not, SHm hS, SHr hS, ea, va, bt_ne, hq]
  refine ⟨fun q => ?_, fun q => ?_⟩
  · rw [if_neg q] at hk; exact hk
  · rw [if_pos q] at hk; exact hk
set_option maxHeartbeats 4000000 in
set_option maxRecDepth 100000 in
theorem c_layRoad {a b c : Nat} (hS : Sh mu ro) (ha : a < 10) (hb : b < 10) (hab : a ≠ b) (hc : sg 1 8 = nI c) (hk : K none (s2 (s2 (s2 sg 2 a (sg 2 a ||| (1 <<< (nI b &&& 31)))) 2 b (sg 2 b ||| (1 <<< (nI a &&& 31)))) 1 8 (nI (c + 1)))) : aCall d 23 [.ref 1, .int (nI a), .int (nI b)] n mu ro sg K := by
  have ea : (nI a).toNatClampNeg = a := nI_clamp (by omega)
  have va : vp_in (nI a) 10 := vp_in_nI ha (by decide)
  have eb : (nI b).toNatClampNeg = b := nI_clamp (by omega)
  have vb : vp_in (nI b) 10 := vp_in_nI hb (by decide)
  have r1 : ∀ v, s2 sg 2 a v 2 b = sg 2 b := fun v => s2_n (by omega)
  have r2 : ∀ v w, s2 (s2 sg 2 a v) 2 b w 1 8 = nI c := fun v w => by rw [s2_n (by omega), s2_n (by omega)]; exact hc
  refine aCall_start (mL := 3) (cc := cX4_layRoad) (o := 4) (ret := none) 0 (by decide) (by decide +kernel) rfl rfl rfl rfl (Nat.le_of_ble_eq_true rfl) (fun G hC hG => ?_)
  simp only [exL, List.cons_append, List.nil_append, rp_0, rp_1, rp_2, rp_3, rp_4, rp_5, rp_6, rp_7, rp_8, rp_9, rp_10, rp_11, List.append_nil]
  refine hG (fun _ => false) 80 _ _ _ _ (Nat.le_of_ble_eq_true rfl) ?_
  simp only [D_X4_layRoad, ↓reduceIte, vcS, vcC, vcI, gtF, ptF, inS, inV, fv0, fv1, fv2, fv3, fw0, fw1, lg_0, lg_1, lg_2, lg_3, lg_4, lg_5, lg_6, lg_7, lg_8, lg_9, lg_10, lg_11, lg_12, lg_13, lg_14, lsq_0, lsl_0, lsq_1, lsl_1, lsq_2, lsl_2, lsq_3, lsl_3, lsq_4, lsl_4, lsq_5, lsl_5, lsq_6, lsl_6, lsq_7, lsl_7, lsq_8, lsl_8, lsq_9, lsl_9, lsq_10, lsl_10, lsq_11, lsl_11, lsq_12, lsl_12, lsq_13, lsl_13, lsq_14, lsl_14, tk_0, tk_1, tk_2, tk_3, tk_4, tk_5, tk_6, tk_7, tk_8, cs_n, cs_i, cs_l, cs_r, cs_u, nl, rt_s, rt_n, CST1, Nat.reduceAdd, Nat.reduceLeDiff, va_rf, rtOk, Bool.false_eq_true, Bool.true_eq_false, if_false, if_true, ite_true, ite_false, true_and, and_true, eq_self, ne_eq, not_false_eq_true, not_true_eq_false, false_implies, true_implies, and_self, reduceCtorEq, Nat.reduceBEq, Bool.or_false, Bool.false_or, Bool.or_true, Bool.true_or, if1_0, if1_1, if1_01, one_01, zer_01, lg_cmp_ge, lg_cmp_le, lg_cmp_gt, lg_cmp_lt, lg_cmp_eq, Classical.not_not, SHm hS, SHr hS, ea, va, eb, vb, r1, r2, nI_1]
  exact hk
set_option maxHeartbeats 4000000 in
set_option maxRecDepth 100000 in
theorem c_doorBetween {a b D : Nat} {dA dB : Nat → Nat} (hS : Sh mu ro) (ha : a < 10) (hb : b < 10) (hD : sg 1 9 = nI D) (hD8 : D ≤ 8) (hE : ∀ e, e < D → sg 4 e = nI (dA e) ∧ sg 5 e = nI (dB e) ∧ dA e < 10 ∧ dB e < 10)
    (hk1 : (∀ e, e < D → ¬ prD dA dB e a b) → K (some (.int (-9))) sg) (hk2 : ∀ e, e < D → prD dA dB e a b → K (some (.int (nI e))) sg) : aCall d 26 [.ref 1, .int (nI a), .int (nI b)] n mu ro sg K := by
  refine aCall_start (mL := 4) (cc := cX4_doorBetween) (o := 4) (ret := (some .int)) 1 (by decide) (by decide +kernel) rfl rfl rfl rfl (Nat.le_of_ble_eq_true rfl) (fun G hC hG => ?_)
  simp only [exL, List.cons_append, List.nil_append, rp_0, rp_1, rp_2, rp_3, rp_4, rp_5, rp_6, rp_7, rp_8, rp_9, rp_10, rp_11, List.append_nil]
  have loop : ∀ (m e : Nat), e + m = D → (∀ f, f < e → ¬ prD dA dB f a b) → AW G 4 n 0 0 mu ro sg 2 [.ref 1, .int (nI a), .int (nI b), .int (nI e)] [] := by
    intro m
    induction m with
    | zero =>
      intro e he hn
      have hq : (nI D ≤ nI e) = True := eq_true (nI_le (by omega) (by omega))
      refine hG (fun q => q == 2) 80 _ _ _ _ (Nat.le_of_ble_eq_true rfl) ?_
      simp only [D_X4_doorBetween, ↓reduceIte, vcS, vcC, vcI, gtF, ptF, inS, inV, fv0, fv1, fv2, fv3, fw0, fw1, lg_0, lg_1, lg_2, lg_3, lg_4, lg_5, lg_6, lg_7, lg_8, lg_9, lg_10, lg_11, lg_12, lg_13, lg_14, lsq_0, lsl_0, lsq_1, lsl_1, lsq_2, lsl_2, lsq_3, lsl_3, lsq_4, lsl_4, lsq_5, lsl_5, lsq_6, lsl_6, lsq_7, lsl_7, lsq_8, lsl_8, lsq_9, lsl_9, lsq_10, lsl_10, lsq_11, lsl_11, lsq_12, lsl_12, lsq_13, lsl_13, lsq_14, lsl_14, tk_0, tk_1, tk_2, tk_3, tk_4, tk_5, tk_6, tk_7, tk_8, cs_n, cs_i, cs_l, cs_r, cs_u, nl, rt_s, rt_n, CST1, Nat.reduceAdd, Nat.reduceLeDiff, va_rf, rtOk, Bool.false_eq_true, Bool.true_eq_false, if_false, if_true, ite_true, ite_false, true_and, and_true, eq_self, ne_eq, not_false_eq_true, not_true_eq_false, false_implies, true_implies, and_self, reduceCtorEq, Nat.reduceBEq, Bool.or_false, Bool.false_or, Bool.or_true, Bool.true_or, if1_0, if1_1, if1_01, one_01, zer_01, lg_cmp_ge, lg_cmp_le, lg_cmp_gt, lg_cmp_lt, lg_cmp_eq, Classical.not_not, SHm hS, SHr hS, hD, ↓im_T hq, ↓im_TN hq, hq]
      exact hk1 (fun f hf => hn f (by omega))
    | succ m ih =>
      intro e he hn
      have hq : (nI D ≤ nI e) = False := eq_false (nI_ge (by omega) (by omega))
      have ee : (nI e).toNatClampNeg = e := nI_clamp (by omega)
      have ve : vp_in (nI e) 8 := vp_in_nI (by omega) (by decide)
      obtain ⟨e1, e2, e3, e4⟩ := hE e (by omega)
      have q1 : (nI (dA e) = nI a) = (dA e = a) := propext (nI_eq (by omega) (by omega))
      have q2 : (nI (dA e) = nI b) = (dA e = b) := propext (nI_eq (by omega) (by omega))
      have q3 : (nI (dB e) = nI a) = (dB e = a) := propext (nI_eq (by omega) (by omega))
      have q4 : (nI (dB e) = nI b) = (dB e = b) := propext (nI_eq (by omega) (by omega))
      have nx : ¬ prD dA dB e a b → AW G 4 n 0 0 mu ro sg 2 [.ref 1, .int (nI a), .int (nI b), .int (nI (e + 1))] [] := fun h => ih (e + 1) (by omega) (fun f hf => by
        by_cases h9 : f = e
        · rw [h9]; exact h
        · exact hn f (by omega))
      refine hG (fun q => q == 2) 80 _ _ _ _ (Nat.le_of_ble_eq_true rfl) ?_
      simp only [D_X4_doorBetween, ↓reduceIte, vcS, vcC, vcI, gtF, ptF, inS, inV, fv0, fv1, fv2, fv3, fw0, fw1, lg_0, lg_1, lg_2, lg_3, lg_4, lg_5, lg_6, lg_7, lg_8, lg_9, lg_10, lg_11, lg_12, lg_13, lg_14, lsq_0, lsl_0, lsq_1, lsl_1, lsq_2, lsl_2, lsq_3, lsl_3, lsq_4, lsl_4, lsq_5, lsl_5, lsq_6, lsl_6, lsq_7, lsl_7, lsq_8, lsl_8, lsq_9, lsl_9, lsq_10, lsl_10, lsq_11, lsl_11, lsq_12, lsl_12, lsq_13, lsl_13, lsq_14, lsl_14, tk_0, tk_1, tk_2, tk_3, tk_4, tk_5, tk_6, tk_7, tk_8, cs_n, cs_i, cs_l, cs_r, cs_u, nl, rt_s, rt_n, CST1, Nat.reduceAdd, Nat.reduceLeDiff, va_rf, rtOk, Bool.false_eq_true, Bool.true_eq_false, if_false, if_true, ite_true, ite_false, true_and, and_true, eq_self, ne_eq, not_false_eq_true, not_true_eq_false, false_implies, true_implies, and_self, reduceCtorEq, Nat.reduceBEq, Bool.or_false, Bool.false_or, Bool.or_true, Bool.true_or, if1_0, if1_1, if1_01, one_01, zer_01, lg_cmp_ge, lg_cmp_le, lg_cmp_gt, lg_cmp_lt, lg_cmp_eq, Classical.not_not, SHm hS, SHr hS, hD, ↓im_F hq, ↓im_FN hq, hq, ee, ve, e1, e2, q1, q2, q3, q4, nI_1]
      by_cases p : prD dA dB e a b
      · have := hk2 e (by omega) p
        rcases p with ⟨p1, p2⟩ | ⟨p1, p2⟩
        · simp only [p1, p2, true_implies, implies_true, not_true_eq_false, false_implies, and_true, true_and, not_false_eq_true, this]
          repeat' (first | (refine And.intro ?_ ?_) | (with_reducible intro _))
          all_goals first | exact this | (exfalso; omega)
        · simp only [p1, p2, true_implies, implies_true, not_true_eq_false, false_implies, and_true, true_and, not_false_eq_true, this]
          repeat' (first | (refine And.intro ?_ ?_) | (with_reducible intro _))
          all_goals first | exact this | (exfalso; omega)
      · have := nx p
        unfold prD at p
        repeat' (first | (refine And.intro ?_ ?_) | (with_reducible intro _))
        all_goals first | exact this | (exfalso; omega)
  refine hG (fun q => q == 2) 80 _ _ _ _ (Nat.le_of_ble_eq_true rfl) ?_
  simp only [D_X4_doorBetween, ↓reduceIte, vcS, vcC, vcI, gtF, ptF, inS, inV, fv0, fv1, fv2, fv3, fw0, fw1, lg_0, lg_1, lg_2, lg_3, lg_4, lg_5, lg_6, lg_7, lg_8, lg_9, lg_10, lg_11, lg_12, lg_13, lg_14, lsq_0, lsl_0, lsq_1, lsl_1, lsq_2, lsl_2, lsq_3, lsl_3, lsq_4, lsl_4, lsq_5, lsl_5, lsq_6, lsl_6, lsq_7, lsl_7, lsq_8, lsl_8, lsq_9, lsl_9, lsq_10, lsl_10, lsq_11, lsl_11, lsq_12, lsl_12, lsq_13, lsl_13, lsq_14, lsl_14, tk_0, tk_1, tk_2, tk_3, tk_4, tk_5, tk_6, tk_7, tk_8, cs_n, cs_i, cs_l, cs_r, cs_u, nl, rt_s, rt_n, CST1, Nat.reduceAdd, Nat.reduceLeDiff, va_rf, rtOk, Bool.false_eq_true, Bool.true_eq_false, if_false, if_true, ite_true, ite_false, true_and, and_true, eq_self, ne_eq, not_false_eq_true, not_true_eq_false, false_implies, true_implies, and_self, reduceCtorEq, Nat.reduceBEq, Bool.or_false, Bool.false_or, Bool.or_true, Bool.true_or, if1_0, if1_1, if1_01, one_01, zer_01, lg_cmp_ge, lg_cmp_le, lg_cmp_gt, lg_cmp_lt, lg_cmp_eq, Classical.not_not]
  exact loop D 0 (by omega) (fun f hf => absurd hf (by omega))
set_option maxHeartbeats 4000000 in
set_option maxRecDepth 100000 in
theorem c_takeRoad {a b c D : Nat} {dA dB : Nat → Nat} (hS : Sh mu ro) (hd : 1 ≤ d) (ha : a < 10) (hb : b < 10) (hab : a ≠ b) (hc : sg 1 8 = nI (c + 1)) (hD : sg 1 9 = nI D) (hD8 : D ≤ 8) (hE : ∀ e, e < D → sg 4 e = nI (dA e) ∧ sg 5 e = nI (dB e) ∧ dA e < 10 ∧ dB e < 10)
    (hk1 : (∀ e, e < D → ¬ prD dA dB e a b) → K none (s2 (s2 (s2 (s2 (s2 sg 2 a (sg 2 a &&& ((1 <<< (nI b &&& 31)) ^^^ -1))) 2 b (sg 2 b &&& ((1 <<< (nI a &&& 31)) ^^^ -1))) 3 a (sg 3 a &&& ((1 <<< (nI b &&& 31)) ^^^ -1))) 3 b (sg 3 b &&& ((1 <<< (nI a &&& 31)) ^^^ -1))) 1 8 (nI c)))
    (hk2 : ∀ e, e < D → prD dA dB e a b → K none (s2 (s2 (s2 (s2 (s2 (s2 sg 2 a (sg 2 a &&& ((1 <<< (nI b &&& 31)) ^^^ -1))) 2 b (sg 2 b &&& ((1 <<< (nI a &&& 31)) ^^^ -1))) 3 a (sg 3 a &&& ((1 <<< (nI b &&& 31)) ^^^ -1))) 3 b (sg 3 b &&& ((1 <<< (nI a &&& 31)) ^^^ -1))) 1 8 (nI c)) 1 10 (sg 1 10 &&& ((1 <<< (nI e &&& 31)) ^^^ -1)))) : aCall d 24 [.ref 1, .int (nI a), .int (nI b)] n mu ro sg K := by
  have ea : (nI a).toNatClampNeg = a := nI_clamp (by omega)
  have va : vp_in (nI a) 10 := vp_in_nI ha (by decide)
  have eb : (nI b).toNatClampNeg = b := nI_clamp (by omega)
  have vb : vp_in (nI b) 10 := vp_in_nI hb (by decide)
  have r1 : ∀ v, s2 sg 2 a v 2 b = sg 2 b := fun v => s2_n (by omega)
  have r2 : ∀ v w, s2 (s2 sg 2 a v) 2 b w 3 a = sg 3 a := fun v w => by rw [s2_n (by omega), s2_n (by omega)]
  have r3 : ∀ u v w, s2 (s2 (s2 sg 2 a v) 2 b w) 3 a u 3 b = sg 3 b := fun u v w => by rw [s2_n (by omega), s2_n (by omega), s2_n (by omega)]
  have r4 : ∀ t u v w, s2 (s2 (s2 (s2 sg 2 a v) 2 b w) 3 a u) 3 b t 1 8 = nI (c + 1) := fun t u v w => by rw [s2_n (by omega), s2_n (by omega), s2_n (by omega), s2_n (by omega)]; exact hc
  have r5 : ∀ q t u v w, s2 (s2 (s2 (s2 (s2 sg 2 a v) 2 b w) 3 a u) 3 b t) 1 8 q 1 10 = sg 1 10 := fun q t u v w => by rw [s2_n (by omega), s2_n (by omega), s2_n (by omega), s2_n (by omega), s2_n (by omega)]
  refine aCall_start (mL := 4) (cc := cX4_takeRoad) (o := 4) (ret := none) 1 (by decide) (by decide +kernel) rfl rfl rfl rfl (Nat.le_of_ble_eq_true rfl) (fun G hC hG => ?_)
  simp only [exL, List.cons_append, List.nil_append, rp_0, rp_1, rp_2, rp_3, rp_4, rp_5, rp_6, rp_7, rp_8, rp_9, rp_10, rp_11, List.append_nil]
  refine hG (fun _ => false) 80 _ _ _ _ (Nat.le_of_ble_eq_true rfl) ?_
  simp only [D_X4_takeRoad, N_X4_takeRoad, ↓reduceIte, vcS, vcC, vcI, gtF, ptF, inS, inV, fv0, fv1, fv2, fv3, fw0, fw1, lg_0, lg_1, lg_2, lg_3, lg_4, lg_5, lg_6, lg_7, lg_8, lg_9, lg_10, lg_11, lg_12, lg_13, lg_14, lsq_0, lsl_0, lsq_1, lsl_1, lsq_2, lsl_2, lsq_3, lsl_3, lsq_4, lsl_4, lsq_5, lsl_5, lsq_6, lsl_6, lsq_7, lsl_7, lsq_8, lsl_8, lsq_9, lsl_9, lsq_10, lsl_10, lsq_11, lsl_11, lsq_12, lsl_12, lsq_13, lsl_13, lsq_14, lsl_14, tk_0, tk_1, tk_2, tk_3, tk_4, tk_5, tk_6, tk_7, tk_8, cs_n, cs_i, cs_l, cs_r, cs_u, nl, rt_s, rt_n, CST1, Nat.reduceAdd, Nat.reduceLeDiff, va_rf, rtOk, Bool.false_eq_true, Bool.true_eq_false, if_false, if_true, ite_true, ite_false, true_and, and_true, eq_self, ne_eq, not_false_eq_true, not_true_eq_false, false_implies, true_implies, and_self, reduceCtorEq, Nat.reduceBEq, Bool.or_false, Bool.false_or, Bool.or_true, Bool.true_or, if1_0, if1_1, if1_01, one_01, zer_01, lg_cmp_ge, lg_cmp_le, lg_cmp_gt, lg_cmp_lt, lg_cmp_eq, Classical.not_not, SHm hS, SHr hS, ea, va, eb, vb, r1, r2, r3, r4, nI_pred]
  refine ⟨hd, c_doorBetween (D := D) (dA := dA) (dB := dB) hS ha hb (by ((try simp (disch := omega) only [s2_y, s2_n, rg_y, rg_n, fl_y, fl_n]); (try with_reducible rfl); (try assumption))) hD8 (fun e he => ?_) (fun h => ?_) (fun e he h => ?_)⟩
  · obtain ⟨e1, e2, e3, e4⟩ := hE e he
    refine ⟨?_, ?_, e3, e4⟩
    · ((try simp (disch := omega) only [s2_y, s2_n, rg_y, rg_n, fl_y, fl_n]); (try with_reducible rfl); (try assumption))
    · ((try simp (disch := omega) only [s2_y, s2_n, rg_y, rg_n, fl_y, fl_n]); (try with_reducible rfl); (try assumption))
  · have h9 : ((-9 : Int32) = -9) = True := eq_true rfl
    simp only [D_X4_takeRoad, N_X4_takeRoad, ↓reduceIte, vcS, vcC, vcI, gtF, ptF, inS, inV, fv0, fv1, fv2, fv3, fw0, fw1, lg_0, lg_1, lg_2, lg_3, lg_4, lg_5, lg_6, lg_7, lg_8, lg_9, lg_10, lg_11, lg_12, lg_13, lg_14, lsq_0, lsl_0, lsq_1, lsl_1, lsq_2, lsl_2, lsq_3, lsl_3, lsq_4, lsl_4, lsq_5, lsl_5, lsq_6, lsl_6, lsq_7, lsl_7, lsq_8, lsl_8, lsq_9, lsl_9, lsq_10, lsl_10, lsq_11, lsl_11, lsq_12, lsl_12, lsq_13, lsl_13, lsq_14, lsl_14, tk_0, tk_1, tk_2, tk_3, tk_4, tk_5, tk_6, tk_7, tk_8, cs_n, cs_i, cs_l, cs_r, cs_u, nl, rt_s, rt_n, CST1, Nat.reduceAdd, Nat.reduceLeDiff, va_rf, rtOk, Bool.false_eq_true, Bool.true_eq_false, if_false, if_true, ite_true, ite_false, true_and, and_true, eq_self, ne_eq, not_false_eq_true, not_true_eq_false, false_implies, true_implies, and_self, reduceCtorEq, Nat.reduceBEq, Bool.or_false, Bool.false_or, Bool.or_true, Bool.true_or, if1_0, if1_1, if1_01, one_01, zer_01, lg_cmp_ge, lg_cmp_le, lg_cmp_gt, lg_cmp_lt, lg_cmp_eq, Classical.not_not, SHm hS, SHr hS]
    exact hk1 h
  · have h9 : (nI e = -9) = False := nI_n9 (by omega)
    simp only [D_X4_takeRoad, N_X4_takeRoad, ↓reduceIte, vcS, vcC, vcI, gtF, ptF, inS, inV, fv0, fv1, fv2, fv3, fw0, fw1, lg_0, lg_1, lg_2, lg_3, lg_4, lg_5, lg_6, lg_7, lg_8, lg_9, lg_10, lg_11, lg_12, lg_13, lg_14, lsq_0, lsl_0, lsq_1, lsl_1, lsq_2, lsl_2, lsq_3, lsl_3, lsq_4, lsl_4, lsq_5, lsl_5, lsq_6, lsl_6, lsq_7, lsl_7, lsq_8, lsl_8, lsq_9, lsl_9, lsq_10, lsl_10, lsq_11, lsl_11, lsq_12, lsl_12, lsq_13, lsl_13, lsq_14, lsl_14, tk_0, tk_1, tk_2, tk_3, tk_4, tk_5, tk_6, tk_7, tk_8, cs_n, cs_i, cs_l, cs_r, cs_u, nl, rt_s, rt_n, CST1, Nat.reduceAdd, Nat.reduceLeDiff, va_rf, rtOk, Bool.false_eq_true, Bool.true_eq_false, if_false, if_true, ite_true, ite_false, true_and, and_true, eq_self, ne_eq, not_false_eq_true, not_true_eq_false, false_implies, true_implies, and_self, reduceCtorEq, Nat.reduceBEq, Bool.or_false, Bool.false_or, Bool.or_true, Bool.true_or, if1_0, if1_1, if1_01, one_01, zer_01, lg_cmp_ge, lg_cmp_le, lg_cmp_gt, lg_cmp_lt, lg_cmp_eq, Classical.not_not, SHm hS, SHr hS, h9, r5]
    exact hk2 e he h
end H41
