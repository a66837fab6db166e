/-! part 27: copy on both sides, together; sums of hours -/
section H27
variable {d n N : Nat} {mu : aM} {ro : aR} {sg : aS} {K : Option Value → aS → Prop}
/-- what two sheets say of one number -/
theorem sh_say {s : aS} (h : I_sh s) {k : Nat} (hk : k < 4) : (s 85 k).toInt ≤ 60 ∧ ((¬ s (40 + 2 * k) 1 = 0) ↔ 0 ≤ (s 85 k).toInt) ∧ (0 ≤ (s 85 k).toInt → s (40 + 2 * k) 3 = s 85 k ∧ s (40 + 2 * k) 2 = s 86 k ∧ ∀ i : Nat, (i : Int) < (s 85 k).toInt → s (41 + 2 * k) i = s 87 (60 * k + i)) := by
  rcases sh_of h hk with ⟨g1, g2⟩ | ⟨g1, g2, g3, g4, g5, g6⟩
  · refine ⟨by rw [g2]; decide, by rw [g1, g2]; decide, fun q => ?_⟩
    rw [g2] at q; exact absurd q (by decide)
  · exact ⟨g3.2, by rw [g1]; exact ⟨fun _ => g3.1, fun _ => by decide⟩, fun _ => ⟨g2, g4, g6⟩⟩
theorem cpG_congr {p q p' q' : Prop} [Decidable p] [Decidable q] [Decidable p'] [Decidable q'] {a b c e a' b' c' e' i j w : Int32} (h1 : p ↔ p') (h2 : q ↔ q') (h3 : p' → q' → a = a' ∧ b = b' ∧ c = c' ∧ e = e') : cpG p q a b c e i j w = cpG p' q' a' b' c' e' i j w := by
  unfold cpG
  by_cases g1 : p' ∧ q'
  · obtain ⟨rfl, rfl, rfl, rfl⟩ := h3 g1.1 g1.2
    rw [if_neg (not_not_intro g1), if_neg (not_not_intro ⟨h1.mpr g1.1, h2.mpr g1.2⟩)]
  · rw [if_pos g1, if_pos (fun z => g1 ⟨h1.mp z.1, h2.mp z.2⟩)]
set_option maxHeartbeats 4000000 in
set_option maxRecDepth 100000 in
theorem b_copy {x y i j w : Int32} (hS : Sh mu ro) (hd : 3 ≤ d) (hI : I_sh sg) (hk : ∀ r sg2, I_sh sg2 → Fr [11, 13] sg sg2 → K r sg2) : aCall d 140 [.ref 0, .int x, .int i, .int y, .int j, .int w] n mu ro sg (fun r1 sg1 => aCall d 243 [.ref 48, .int x, .int i, .int y, .int j, .int w] n mu ro sg1 (fun r2 sg2 => r1 = r2 ∧ K r1 sg2)) := by
  have hf : ∀ v r, K r (s2 (s2 sg 0 14 v) 48 0 v) := fun v r => hk _ _ (hI.ft ft2.1 ft2.2) Fr_ft
  by_cases hok : (0 ≤ x.toInt ∧ x.toInt ≤ 3) ∧ (0 ≤ y.toInt ∧ y.toInt ≤ 3)
  · obtain ⟨k, hk4, rfl⟩ := k_of hok.1
    obtain ⟨o, ho4, rfl⟩ := k_of hok.2
    obtain ⟨k1, k2, k3⟩ := sh_say hI hk4
    obtain ⟨o1, o2, o3⟩ := sh_say hI ho4
    have hc : cpG (¬ sg (40 + 2 * k) 1 = 0) (¬ sg (40 + 2 * o) 1 = 0) (sg (40 + 2 * k) 2) (sg (40 + 2 * o) 2) (sg (40 + 2 * k) 3) (sg (40 + 2 * o) 3) i j w = cpG (0 ≤ (sg 85 k).toInt) (0 ≤ (sg 85 o).toInt) (sg 86 k) (sg 86 o) (sg 85 k) (sg 85 o) i j w := cpG_congr k2 o2 (fun p q => ⟨(k3 p).2.1, (o3 q).2.1, (k3 p).1, (o3 q).1⟩)
    refine c_copy hS hd hk4 ho4 (fun q => ?_) (fun q => ?_) (fun f q1 q2 => ?_) (fun i' j' w' q1 q2 q3 q4 q5 q6 => ?_)
    · rw [(k3 (k2.mp q)).1]; exact ⟨k2.mp q, k1⟩
    · rw [(o3 (o2.mp q)).1]; exact ⟨o2.mp q, o1⟩
    · rw [hc] at q1
      have r : ∀ a b : Nat, a ≠ 0 → s2 sg 0 14 f a b = sg a b := fun a b h => s2_n (by omega)
      refine m_copy hS hd hk4 ho4 (by rw [r _ _ (by decide)]; exact k1) (by rw [r _ _ (by decide)]; exact o1) (fun f' p1 p2 => ?_) (fun i' j' w' p1 => ?_)
      · simp only [r 85 _ (by decide), r 86 _ (by decide)] at p1
        rw [q1] at p1
        subst p1
        exact ⟨rfl, hf _ _⟩
      · simp only [r 85 _ (by decide), r 86 _ (by decide)] at p1
        exact absurd (q1.symm.trans p1) q2
    · rw [hc] at q1
      have hz := cpG_0.mp q1
      have r : ∀ (b : Nat) (f : Nat → Int32), rgS (s2 sg 0 14 0) (41 + 2 * o) j' w' f 85 b = sg 85 b ∧ rgS (s2 sg 0 14 0) (41 + 2 * o) j' w' f 86 b = sg 86 b ∧ rgS (s2 sg 0 14 0) (41 + 2 * o) j' w' f 87 b = sg 87 b := fun b f => ⟨by rw [rg_n (by omega), s2_n (by omega)], by rw [rg_n (by omega), s2_n (by omega)], by rw [rg_n (by omega), s2_n (by omega)]⟩
      refine m_copy hS hd hk4 ho4 (by rw [(r _ _).1]; exact k1) (by rw [(r _ _).1]; exact o1) (fun f' p1 p2 => ?_) (fun i2 j2 w2 p1 p2 p3 p4 p5 p6 => ?_)
      · simp only [(r _ _).1, (r _ _).2.1] at p1
        exact absurd (p1.symm.trans q1) p2
      · have z1 : i' = i2 := (nI_eq (by omega) (by omega)).mp (q4.symm.trans p4)
        have z2 : j' = j2 := (nI_eq (by omega) (by omega)).mp (q5.symm.trans p5)
        have z3 : w' = w2 := (nI_eq (by omega) (by omega)).mp (q6.symm.trans p6)
        subst z1 z2 z3
        have t1 : i.toInt = i' := by rw [q4]; exact nI_toInt (by omega)
        have t2 : j.toInt = j' := by rw [q5]; exact nI_toInt (by omega)
        have t3 : w.toInt = w' := by rw [q6]; exact nI_toInt (by omega)
        simp only [(r _ _).2.2]
        refine ⟨trivial, hk _ _ (sh_to (by ((try simp (disch := omega) only [s2_y, s2_n, rg_y, rg_n, fl_y, fl_n]); (try with_reducible rfl); (try assumption))) (fun k' hk' => ?_)) ?_⟩
        · by_cases hkk : k' = o
          · subst hkk
            obtain ⟨g1, g2⟩ | ⟨g1, g2, g3, g4, g5, g6⟩ := sh_of hI hk'
            · exact absurd g1 (o2.mpr hz.1.2)
            refine Or.inr ⟨by ((try simp (disch := omega) only [s2_y, s2_n, rg_y, rg_n, fl_y, fl_n]); (try with_reducible rfl); (try assumption)), by ((try simp (disch := omega) only [s2_y, s2_n, rg_y, rg_n, fl_y, fl_n]); (try with_reducible rfl); (try assumption)), ?_, by ((try simp (disch := omega) only [s2_y, s2_n, rg_y, rg_n, fl_y, fl_n]); (try with_reducible rfl); (try assumption)), ?_, fun y hy => ?_⟩
            · unfold i_bw
              ((try simp (disch := omega) only [s2_y, s2_n, rg_y, rg_n, fl_y, fl_n]); (try with_reducible rfl); (try assumption))
            · unfold i_bw
              ((try simp (disch := omega) only [s2_y, s2_n, rg_y, rg_n, fl_y, fl_n]); (try with_reducible rfl); (try assumption))
            · simp (disch := omega) only [s2_y, s2_n, rg_n] at hy
              by_cases hin : j' ≤ y ∧ y < j' + w'
              · ((try simp (disch := omega) only [s2_y, s2_n, rg_y, rg_n, fl_y, fl_n]); (try with_reducible rfl); (try assumption))
                have := (k3 hz.1.1).2.2 (i' + (y - j')) (by omega)
                rw [this]
                congr 1
                omega
              · ((try simp (disch := omega) only [s2_y, s2_n, rg_y, rg_n, fl_y, fl_n]); (try with_reducible rfl); (try assumption))
                exact g6 y hy
          · refine sh1_fr (sh_of hI hk') (fun y => by ((try simp (disch := omega) only [s2_y, s2_n, rg_y, rg_n, fl_y, fl_n]); (try with_reducible rfl); (try assumption))) (fun y => by ((try simp (disch := omega) only [s2_y, s2_n, rg_y, rg_n, fl_y, fl_n]); (try with_reducible rfl); (try assumption))) (by ((try simp (disch := omega) only [s2_y, s2_n, rg_y, rg_n, fl_y, fl_n]); (try with_reducible rfl); (try assumption))) (by ((try simp (disch := omega) only [s2_y, s2_n, rg_y, rg_n, fl_y, fl_n]); (try with_reducible rfl); (try assumption))) (fun y hy => ?_)
            have := (sh_say hI hk').1
            ((try simp (disch := omega) only [s2_y, s2_n, rg_y, rg_n, fl_y, fl_n]); (try with_reducible rfl); (try assumption))
        · refine Fr.putq (m := 13) (Fr.rg (Fr.rg (Fr.rg (Fr.putq (m := 13) Fr.rfl rfl (by decide)) (fun z => Or.inl ?_)) (fun z => Or.inr rfl)) (fun z => Or.inl ?_)) rfl (by decide)
          · rw [(reg_sh ho4).2]; decide
          · rw [show reg 87 z = 11 from rfl]; decide
  · exact c_copyY hS hd hok (m_copyY hS hd hok ⟨rfl, hf _ _⟩)
-- the sum of some hours
def smF (f : Nat → Int32) (h : Int32) : Nat → Int32
  | 0 => 0
  | i + 1 => if bt1 h (nI i) then smF f h i + f i else smF f h i
theorem smF_congr {f g : Nat → Int32} {h : Int32} : ∀ m, (∀ j, j < m → f j = g j) → smF f h m = smF g h m
  | 0, _ => rfl
  | m + 1, q => by
    unfold smF
    rw [smF_congr m (fun j hj => q j (by omega)), q m (by omega)]
set_option maxHeartbeats 4000000 in
set_option maxRecDepth 100000 in
theorem c_sumOf {m : Nat} {h : Int32} (hS : Sh mu ro) (hm : m < 10) (hk : K (some (.int (smF (fun x => sg 24 (14 * m + x)) h 14))) sg) : aCall d 12 [.ref 23, .int (nI m), .int h] n mu ro sg K := by
  refine aCall_start (mL := 5) (cc := cX2_sumOf) (o := 2) (ret := (some .int)) 2 (by decide) (by decide +kernel) rfl rfl rfl rfl (Nat.le_of_ble_eq_true rfl) (fun G hC hG => ?_)
  simp only [exL, List.cons_append, List.nil_append, rp_0, rp_1, rp_2, rp_3, rp_4, rp_5, rp_6, rp_7, rp_8, rp_9, rp_10, rp_11, List.append_nil]
  have loop : ∀ (mm i : Nat), i + mm = 14 → AW G 5 n 0 0 mu ro (sg) 5 [.ref 23, .int (nI m), .int h, .int (smF (fun x => sg 24 (14 * m + x)) h i), .int (nI i)] [] := by
    intro mm
    induction mm with
    | zero =>
      intro i hi 
      have hi' : i = 14 := by omega
      have ti : (nI i).toInt = i := nI_toInt (by omega)
      have hq : (14 ≤ nI i) = True := eq_true (by ((try simp only [i_le, i_lt, i_eq, l_le, l_lt, l_eq, i_ne, l_ne, toL, l_add, l_sub1, LIT1, LIT2, Int.reduceNeg, ge_iff_le, gt_iff_lt] at *); omega))
      refine hG (fun q => q == 5) 80 _ _ _ _ (Nat.le_of_ble_eq_true rfl) ?_
      simp only [D_X2_sumOf, vcS, vcC, vcI, gtF, ptF, inS, inV, fv0, fv1, fv2, fv3, fw0, fw1, lg_0, lg_1, lg_2, lg_3, lg_4, lg_5, lg_6, lg_7, lg_8, lg_9, lg_10, lg_11, lg_12, lg_13, lg_14, lsq_0, lsl_0, lsq_1, lsl_1, lsq_2, lsl_2, lsq_3, lsl_3, lsq_4, lsl_4, lsq_5, lsl_5, lsq_6, lsl_6, lsq_7, lsl_7, lsq_8, lsl_8, lsq_9, lsl_9, lsq_10, lsl_10, lsq_11, lsl_11, lsq_12, lsl_12, lsq_13, lsl_13, lsq_14, lsl_14, tk_0, tk_1, tk_2, tk_3, tk_4, tk_5, tk_6, tk_7, tk_8, cs_n, cs_i, cs_l, cs_r, cs_u, nl, rt_s, rt_n, CST1, Nat.reduceAdd, Nat.reduceLeDiff, va_rf, rtOk, Bool.false_eq_true, Bool.true_eq_false, if_false, if_true, ite_true, ite_false, true_and, and_true, eq_self, ne_eq, not_false_eq_true, not_true_eq_false, false_implies, true_implies, and_self, reduceCtorEq, Nat.reduceBEq, Bool.or_false, Bool.false_or, Bool.or_true, Bool.true_or, if1_0, if1_1, if1_01, one_01, zer_01, lg_cmp_ge, lg_cmp_le, lg_cmp_gt, lg_cmp_lt, lg_cmp_eq, Classical.not_not, hq, SHm hS, SHr hS, bt_ne]
      rw [hi']
      exact hk
    | succ mm ih =>
      intro i hi 
      have ei : (nI i).toNatClampNeg = i := nI_clamp (by omega)
      have ti : (nI i).toInt = i := nI_toInt (by omega)
      have hq : (14 ≤ nI i) = False := eq_false (by ((try simp only [i_le, i_lt, i_eq, l_le, l_lt, l_eq, i_ne, l_ne, toL, l_add, l_sub1, LIT1, LIT2, Int.reduceNeg, ge_iff_le, gt_iff_lt] at *); omega))
      refine hG (fun q => q == 5) 80 _ _ _ _ (Nat.le_of_ble_eq_true rfl) ?_
      simp only [D_X2_sumOf, vcS, vcC, vcI, gtF, ptF, inS, inV, fv0, fv1, fv2, fv3, fw0, fw1, lg_0, lg_1, lg_2, lg_3, lg_4, lg_5, lg_6, lg_7, lg_8, lg_9, lg_10, lg_11, lg_12, lg_13, lg_14, lsq_0, lsl_0, lsq_1, lsl_1, lsq_2, lsl_2, lsq_3, lsl_3, lsq_4, lsl_4, lsq_5, lsl_5, lsq_6, lsl_6, lsq_7, lsl_7, lsq_8, lsl_8, lsq_9, lsl_9, lsq_10, lsl_10, lsq_11, lsl_11, lsq_12, lsl_12, lsq_13, lsl_13, lsq_14, lsl_14, tk_0, tk_1, tk_2, tk_3, tk_4, tk_5, tk_6, tk_7, tk_8, cs_n, cs_i, cs_l, cs_r, cs_u, nl, rt_s, rt_n, CST1, Nat.reduceAdd, Nat.reduceLeDiff, va_rf, rtOk, Bool.false_eq_true, Bool.true_eq_false, if_false, if_true, ite_true, ite_false, true_and, and_true, eq_self, ne_eq, not_false_eq_true, not_true_eq_false, false_implies, true_implies, and_self, reduceCtorEq, Nat.reduceBEq, Bool.or_false, Bool.false_or, Bool.or_true, Bool.true_or, if1_0, if1_1, if1_01, one_01, zer_01, lg_cmp_ge, lg_cmp_le, lg_cmp_gt, lg_cmp_lt, lg_cmp_eq, Classical.not_not, hq, ei, nI_1, SHm hS, SHr hS, bt_ne]
      have e0 : nI m * 14 + nI i = nI (14 * m + i) := by rw [show (14 : Int32) = nI 14 from rfl, pk_mul, nI_add, Nat.mul_comm]
      have e1 : (nI (14 * m + i)).toNatClampNeg = 14 * m + i := nI_clamp (by omega)
      have h9 := ih (i + 1) (by omega)
      rw [smF] at h9
      rw [e0, e1]
      refine ⟨fun q => ?_, fun q => ⟨vp_in_nI (by omega) (by decide), ?_⟩⟩
      · rw [if_neg q] at h9
        exact h9
      · rw [if_pos q] at h9
        exact h9
  refine hG (fun q => q == 5) 60 _ _ _ _ (Nat.le_of_ble_eq_true rfl) ?_
  simp only [D_X2_sumOf, vcS, vcC, vcI, gtF, ptF, inS, inV, fv0, fv1, fv2, fv3, fw0, fw1, lg_0, lg_1, lg_2, lg_3, lg_4, lg_5, lg_6, lg_7, lg_8, lg_9, lg_10, lg_11, lg_12, lg_13, lg_14, lsq_0, lsl_0, lsq_1, lsl_1, lsq_2, lsl_2, lsq_3, lsl_3, lsq_4, lsl_4, lsq_5, lsl_5, lsq_6, lsl_6, lsq_7, lsl_7, lsq_8, lsl_8, lsq_9, lsl_9, lsq_10, lsl_10, lsq_11, lsl_11, lsq_12, lsl_12, lsq_13, lsl_13, lsq_14, lsl_14, tk_0, tk_1, tk_2, tk_3, tk_4, tk_5, tk_6, tk_7, tk_8, cs_n, cs_i, cs_l, cs_r, cs_u, nl, rt_s, rt_n, CST1, Nat.reduceAdd, Nat.reduceLeDiff, va_rf, rtOk, Bool.false_eq_true, Bool.true_eq_false, if_false, if_true, ite_true, ite_false, true_and, and_true, eq_self, ne_eq, not_false_eq_true, not_true_eq_false, false_implies, true_implies, and_self, reduceCtorEq, Nat.reduceBEq, Bool.or_false, Bool.false_or, Bool.or_true, Bool.true_or, if1_0, if1_1, if1_01, one_01, zer_01, lg_cmp_ge, lg_cmp_le, lg_cmp_gt, lg_cmp_lt, lg_cmp_eq, Classical.not_not, SHm hS, SHr hS]
  exact loop 14 0 rfl
set_option maxHeartbeats 4000000 in
set_option maxRecDepth 100000 in
theorem m_sumIn {m : Nat} {h : Int32} (hS : Sh mu ro) (hd : 1 ≤ d) (hm : m < 10) (hk : K (some (.int (smF (fun x => sg 70 (14 * m + x)) h 14))) sg) : aCall d 202 [.ref 48, .int (nI m), .int h] n mu ro sg K := by
  have z0 : ∀ x : Int32, x + 0 = x := fun x => Int32.add_zero x
  refine aCall_start (mL := 5) (cc := cX12_sumIn) (o := 12) (ret := (some .int)) 2 (by decide) (by decide +kernel) rfl rfl rfl rfl (Nat.le_of_ble_eq_true rfl) (fun G hC hG => ?_)
  simp only [exL, List.cons_append, List.nil_append, rp_0, rp_1, rp_2, rp_3, rp_4, rp_5, rp_6, rp_7, rp_8, rp_9, rp_10, rp_11, List.append_nil]
  have loop : ∀ (mm i : Nat), i + mm = 14 → AW G 5 n 0 0 mu ro (sg) 5 [.ref 48, .int (nI m), .int h, .int (smF (fun x => sg 70 (14 * m + x)) h i), .int (nI i)] [] := by
    intro mm
    induction mm with
    | zero =>
      intro i hi 
      have hi' : i = 14 := by omega
      have ti : (nI i).toInt = i := nI_toInt (by omega)
      have hq : (14 ≤ nI i) = True := eq_true (by ((try simp only [i_le, i_lt, i_eq, l_le, l_lt, l_eq, i_ne, l_ne, toL, l_add, l_sub1, LIT1, LIT2, Int.reduceNeg, ge_iff_le, gt_iff_lt] at *); omega))
      refine hG (fun q => q == 5) 80 _ _ _ _ (Nat.le_of_ble_eq_true rfl) ?_
      simp only [D_X12_sumIn, vcS, vcC, vcI, gtF, ptF, inS, inV, fv0, fv1, fv2, fv3, fw0, fw1, lg_0, lg_1, lg_2, lg_3, lg_4, lg_5, lg_6, lg_7, lg_8, lg_9, lg_10, lg_11, lg_12, lg_13, lg_14, lsq_0, lsl_0, lsq_1, lsl_1, lsq_2, lsl_2, lsq_3, lsl_3, lsq_4, lsl_4, lsq_5, lsl_5, lsq_6, lsl_6, lsq_7, lsl_7, lsq_8, lsl_8, lsq_9, lsl_9, lsq_10, lsl_10, lsq_11, lsl_11, lsq_12, lsl_12, lsq_13, lsl_13, lsq_14, lsl_14, tk_0, tk_1, tk_2, tk_3, tk_4, tk_5, tk_6, tk_7, tk_8, cs_n, cs_i, cs_l, cs_r, cs_u, nl, rt_s, rt_n, CST1, Nat.reduceAdd, Nat.reduceLeDiff, va_rf, rtOk, Bool.false_eq_true, Bool.true_eq_false, if_false, if_true, ite_true, ite_false, true_and, and_true, eq_self, ne_eq, not_false_eq_true, not_true_eq_false, false_implies, true_implies, and_self, reduceCtorEq, Nat.reduceBEq, Bool.or_false, Bool.false_or, Bool.or_true, Bool.true_or, if1_0, if1_1, if1_01, one_01, zer_01, lg_cmp_ge, lg_cmp_le, lg_cmp_gt, lg_cmp_lt, lg_cmp_eq, Classical.not_not, hq, SHm hS, SHr hS]
      rw [hi']
      exact hk
    | succ mm ih =>
      intro i hi 
      have ei : (nI i).toNatClampNeg = i := nI_clamp (by omega)
      have ti : (nI i).toInt = i := nI_toInt (by omega)
      have hq : (14 ≤ nI i) = False := eq_false (by ((try simp only [i_le, i_lt, i_eq, l_le, l_lt, l_eq, i_ne, l_ne, toL, l_add, l_sub1, LIT1, LIT2, Int.reduceNeg, ge_iff_le, gt_iff_lt] at *); omega))
      refine hG (fun q => q == 5) 80 _ _ _ _ (Nat.le_of_ble_eq_true rfl) ?_
      simp only [D_X12_sumIn, vcS, vcC, vcI, gtF, ptF, inS, inV, fv0, fv1, fv2, fv3, fw0, fw1, lg_0, lg_1, lg_2, lg_3, lg_4, lg_5, lg_6, lg_7, lg_8, lg_9, lg_10, lg_11, lg_12, lg_13, lg_14, lsq_0, lsl_0, lsq_1, lsl_1, lsq_2, lsl_2, lsq_3, lsl_3, lsq_4, lsl_4, lsq_5, lsl_5, lsq_6, lsl_6, lsq_7, lsl_7, lsq_8, lsl_8, lsq_9, lsl_9, lsq_10, lsl_10, lsq_11, lsl_11, lsq_12, lsl_12, lsq_13, lsl_13, lsq_14, lsl_14, tk_0, tk_1, tk_2, tk_3, tk_4, tk_5, tk_6, tk_7, tk_8, cs_n, cs_i, cs_l, cs_r, cs_u, nl, rt_s, rt_n, CST1, Nat.reduceAdd, Nat.reduceLeDiff, va_rf, rtOk, Bool.false_eq_true, Bool.true_eq_false, if_false, if_true, ite_true, ite_false, true_and, and_true, eq_self, ne_eq, not_false_eq_true, not_true_eq_false, false_implies, true_implies, and_self, reduceCtorEq, Nat.reduceBEq, Bool.or_false, Bool.false_or, Bool.or_true, Bool.true_or, if1_0, if1_1, if1_01, one_01, zer_01, lg_cmp_ge, lg_cmp_le, lg_cmp_gt, lg_cmp_lt, lg_cmp_eq, Classical.not_not, hq, ei, nI_1, SHm hS, SHr hS]
      have e0 : 14 * nI m + nI i = nI (14 * m + i) := by rw [show (14 : Int32) = nI 14 from rfl, pk_mul, nI_add]
      have e1 : (nI (14 * m + i)).toNatClampNeg = 14 * m + i := nI_clamp (by omega)
      have h9 := ih (i + 1) (by omega)
      rw [smF] at h9
      refine ⟨hd, m_hasBit ?_⟩
      simp only [D_X12_sumIn, vcS, vcC, vcI, gtF, ptF, inS, inV, fv0, fv1, fv2, fv3, fw0, fw1, lg_0, lg_1, lg_2, lg_3, lg_4, lg_5, lg_6, lg_7, lg_8, lg_9, lg_10, lg_11, lg_12, lg_13, lg_14, lsq_0, lsl_0, lsq_1, lsl_1, lsq_2, lsl_2, lsq_3, lsl_3, lsq_4, lsl_4, lsq_5, lsl_5, lsq_6, lsl_6, lsq_7, lsl_7, lsq_8, lsl_8, lsq_9, lsl_9, lsq_10, lsl_10, lsq_11, lsl_11, lsq_12, lsl_12, lsq_13, lsl_13, lsq_14, lsl_14, tk_0, tk_1, tk_2, tk_3, tk_4, tk_5, tk_6, tk_7, tk_8, cs_n, cs_i, cs_l, cs_r, cs_u, nl, rt_s, rt_n, CST1, Nat.reduceAdd, Nat.reduceLeDiff, va_rf, rtOk, Bool.false_eq_true, Bool.true_eq_false, if_false, if_true, ite_true, ite_false, true_and, and_true, eq_self, ne_eq, not_false_eq_true, not_true_eq_false, false_implies, true_implies, and_self, reduceCtorEq, Nat.reduceBEq, Bool.or_false, Bool.false_or, Bool.or_true, Bool.true_or, if1_0, if1_1, if1_01, one_01, zer_01, lg_cmp_ge, lg_cmp_le, lg_cmp_gt, lg_cmp_lt, lg_cmp_eq, Classical.not_not, SHm hS, SHr hS, e0, e1, z0, nI_1]
      refine ⟨fun q => ?_, fun q => ⟨vp_in_nI (by omega) (by decide), ?_⟩⟩
      · rw [if_neg q] at h9
        exact h9
      · rw [if_pos q] at h9
        exact h9
  refine hG (fun q => q == 5) 60 _ _ _ _ (Nat.le_of_ble_eq_true rfl) ?_
  simp only [D_X12_sumIn, vcS, vcC, vcI, gtF, ptF, inS, inV, fv0, fv1, fv2, fv3, fw0, fw1, lg_0, lg_1, lg_2, lg_3, lg_4, lg_5, lg_6, lg_7, lg_8, lg_9, lg_10, lg_11, lg_12, lg_13, lg_14, lsq_0, lsl_0, lsq_1, lsl_1, lsq_2, lsl_2, lsq_3, lsl_3, lsq_4, lsl_4, lsq_5, lsl_5, lsq_6, lsl_6, lsq_7, lsl_7, lsq_8, lsl_8, lsq_9, lsl_9, lsq_10, lsl_10, lsq_11, lsl_11, lsq_12, lsl_12, lsq_13, lsl_13, lsq_14, lsl_14, tk_0, tk_1, tk_2, tk_3, tk_4, tk_5, tk_6, tk_7, tk_8, cs_n, cs_i, cs_l, cs_r, cs_u, nl, rt_s, rt_n, CST1, Nat.reduceAdd, Nat.reduceLeDiff, va_rf, rtOk, Bool.false_eq_true, Bool.true_eq_false, if_false, if_true, ite_true, ite_false, true_and, and_true, eq_self, ne_eq, not_false_eq_true, not_true_eq_false, false_implies, true_implies, and_self, reduceCtorEq, Nat.reduceBEq, Bool.or_false, Bool.false_or, Bool.or_true, Bool.true_or, if1_0, if1_1, if1_01, one_01, zer_01, lg_cmp_ge, lg_cmp_le, lg_cmp_gt, lg_cmp_lt, lg_cmp_eq, Classical.not_not, SHm hS, SHr hS]
  exact loop 14 0 rfl
end H27
