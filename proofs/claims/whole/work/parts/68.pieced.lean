/-! part 68: piece on both sides, the end -/
section H68
variable {d n N T Q F : Nat} {mu : aM} {ro : aR} {sg σ : aS} {K : Option Value → aS → Prop} {tb rb : Nat → Nat}
set_option maxHeartbeats 4000000 in
set_option maxRecDepth 100000 in
theorem b_piece {x y z k l i w : Int32} (hS : Sh mu ro) (hd : 6 ≤ d) (hT : S_tk mu ro n T tb) (hR : S_rw mu ro n Q rb) (hDs : S_ds T Q tb rb) (hI : I_tk sg T tb) (hJ : I_rw sg Q rb) (hF : I_fd sg F T) (hH : I_sh sg) (hNt : I_nt sg) (hk : ∀ r sg2, I_sh sg2 → I_tk sg2 T tb → I_rw sg2 Q rb → I_fd sg2 F T → Fr [3, 13] sg sg2 → K r sg2) : aCall d 101 [.ref 0, .int x, .int y, .int z, .int k, .int l, .int i, .int w] n mu ro sg (fun r1 sg1 => aCall d 180 [.ref 48, .int x, .int y, .int z, .int k, .int l, .int i, .int w] n mu ro sg1 (fun r2 sg2 => r1 = r2 ∧ K r1 sg2)) := by
  obtain ⟨R, P, D, dA, dB, S, hN, hX, hM⟩ := id hNt
  have h8 := hI.2.1
  have hz : ∀ s' : aS, s' 85 = sg 85 → ∀ k, k < 4 → (s' 85 k).toInt ≤ 60 := fun s' e k hk4 => by rw [e]; exact (sh_say hH hk4).1
  have b0 : ∀ v, I_sh (s2 (s2 sg 0 14 v) 48 0 v) := fun v => hH.ft ft2.1 ft2.2
  have f0 : ∀ v, Fr [13] sg (s2 (s2 sg 0 14 v) 48 0 v) := fun v => Fr_f2
  have t0 : ∀ v, I_tk (s2 (s2 sg 0 14 v) 48 0 v) T tb := fun v => hI.fr hT ((f0 v).to (by decide) (by decide))
  have r0 : ∀ v, I_rw (s2 (s2 sg 0 14 v) 48 0 v) Q rb := fun v => hJ.fr hR ((f0 v).to (by decide) (by decide))
  have d0 : ∀ v, I_fd (s2 (s2 sg 0 14 v) 48 0 v) F T := fun v => hF.fr ((f0 v).to (by decide) (by decide))
  have fin : ∀ v r, K r (s2 (s2 sg 0 14 v) 48 0 v) := fun v r => hk _ _ (b0 v) (t0 v) (r0 v) (d0 v) ((f0 v).w (by decide))
  -- where only what is used again has changed beside
  have fin2 : ∀ r s', (∀ a k, reg a k ≠ 0 → s' a k = s2 (s2 sg 0 14 0) 48 0 0 a k) → K r s' := by
    intro r s' h
    have fr : Fr [] (s2 (s2 sg 0 14 0) 48 0 0) s' := fun a k _ q => h a k q
    exact hk _ _ ((b0 0).fr2 (fun a k q => h a k (by rcases q with q | q <;> (rw [q]; decide)))) ((t0 0).fr hT (fr.to (by decide) (by decide))) ((r0 0).fr hR (fr.to (by decide) (by decide))) ((d0 0).fr (fr.to (by decide) (by decide))) (((f0 0).w (by decide)).tr (fr.w (by decide)))
  have mI : ∀ s' : aS, (∀ a, 48 ≤ a → a ≤ 88 → s' a = sg a) → s' 48 9 = nI T ∧ ∀ t, t < T → i_bw (s' 56 t) 0 9 ∧ i_bw (s' 57 t) 0 9 ∧ ∀ p, p < 79 → i_by (s' 58 (80 * t + p)) ∧ i_by (s' 59 (80 * t + p)) := by
    intro s' h
    rw [h 48 (by omega) (by omega), h 56 (by omega) (by omega), h 57 (by omega) (by omega), h 58 (by omega) (by omega), h 59 (by omega) (by omega)]
    refine ⟨hI.1.2, fun t ht => ?_⟩
    have g := hI.2.2.1 t ht
    exact ⟨g.2.2.1.2, g.2.2.2.1.2, fun p hp => ⟨(g.2.2.2.2.2.2.2.2 p hp).2.1, (g.2.2.2.2.2.2.2.2 p hp).2.2.2⟩⟩
  have scr : ∀ a k, reg a k ≠ 0 → a ≠ 6 ∧ a ≠ 7 ∧ a ≠ 8 ∧ a ≠ 54 ∧ ¬ (a = 1 ∧ k = 7) := by
    intro a k q
    refine ⟨?_, ?_, ?_, ?_, ?_⟩
    · rintro rfl; exact q rfl
    · rintro rfl; exact q rfl
    · rintro rfl; exact q rfl
    · rintro rfl; exact q rfl
    · rintro ⟨rfl, rfl⟩; exact q rfl
  refine c_piece hS hd hT hI hH hN hX (fun r f h1 => ?_) (fun t pl k' i' w' fm to pn h1 σ1 h2 => ?_) (fun t pl k' i' w' fm to pn m f h1 h2 h3 σ1 h4 => ?_) (fun t pl k' i' w' fm to pn m f h1 h2 h3 e e1 e2 σ1 σ2 h4 c1 c2 c3 c4 => ?_)
  · have e : ∀ a, a ≠ 0 → s2 sg 0 14 f a = sg a := fun a ha => funext (fun j => s2_n (by omega))
    have fr : Fr [13] sg (s2 sg 0 14 f) := Fr_f
    obtain ⟨q1, q2⟩ := mI (s2 sg 0 14 f) (fun a h5 h6 => e a (by omega))
    refine m_piece (T := T) hS hd q1 h8 q2 (hz _ (e 85 (by decide))) hN hM (fun r2 f2 g => ?_) (fun t pl k' i' w' fm to pn => ?_) (fun t pl k' i' w' fm to pn => ?_) (fun t pl k' i' w' fm to pn => ?_)
    · rw [pcV_cg (e 85 (by decide)) (e 86 (by decide)) (e 87 (by decide))] at g
      obtain ⟨rfl, rfl⟩ := pc_uq h1 g
      exact ⟨rfl, fin _ _⟩
    all_goals
      rw [pcN_cg (e 85 (by decide)) (e 86 (by decide)) (e 87 (by decide)) (e 56 (by decide)) (e 57 (by decide))] at pn
      exact (pc_ex h1 pn).elim
  · have e : ∀ a, 9 ≤ a → σ1 a = sg a := fun a ha => funext (fun j => by rw [h2 a j (by omega) (by omega) (by omega) (by omega), s2_n (by omega)])
    have fr : Fr [13] sg σ1 := Fr.tr (Fr_f (x := 0)) (fun a j _ q2 => h2 a j (scr a j q2).1 (scr a j q2).2.1 (scr a j q2).2.2.1 (scr a j q2).2.2.2.2)
    obtain ⟨q1, q2⟩ := mI σ1 (fun a h5 h6 => e a (by omega))
    refine m_piece (T := T) hS hd q1 h8 q2 (hz _ (e 85 (by decide))) hN (h2.m hM) (fun r2 f2 g => ?_) (fun t2 pl2 k2 i2 w2 fm2 to2 pn2 _ σ2 h3 => ⟨rfl, fin2 _ _ (fun a j q => ?_)⟩) (fun t2 pl2 k2 i2 w2 fm2 to2 pn2 m2 f2 g1 g2 => ?_) (fun t2 pl2 k2 i2 w2 fm2 to2 pn2 m2 f2 g1 g2 => ?_)
    · rw [pcV_cg (e 85 (by decide)) (e 86 (by decide)) (e 87 (by decide))] at g
      exact (pc_ex g pn).elim
    · obtain ⟨s1, s2', s3, s4, s5⟩ := scr a j q
      by_cases y : a = 48 ∧ j = 0
      · rw [s2_y y, s2_y y]
      · rw [s2_n (by omega), s2_n (by omega), h3 a j s4, h2 a j s1 s2' s3 s5]
    all_goals
      rw [pcN_cg (e 85 (by decide)) (e 86 (by decide)) (e 87 (by decide)) (e 56 (by decide)) (e 57 (by decide))] at pn2
      obtain ⟨rfl, rfl, rfl, rfl, rfl, rfl, rfl⟩ := pcN_uq h8 pn pn2
      rw [st_le g2.1 (show m2 ≤ 10 by have := lv_9 g2 pn.2.2.2.2.2.2.2.2.2.2.2.2.1; omega)] at h1
      exact absurd h1 (by decide)
  · have e : ∀ a, 9 ≤ a → a ≠ tb t → s2 σ1 (tb t) 8 (sg (tb t) 8 + 1) a = sg a := fun a ha hb => funext (fun j => by rw [s2_n (by omega), h4 a j (by omega) (by omega) (by omega) (by omega), s2_n (by omega)])
    have tt := pn.2.1
    have ta := (hT t tt).2.2.2.2.2.2.1
    have hM' : M_nt (s2 σ1 (tb t) 8 (sg (tb t) 8 + 1)) R P D dA dB S := by
      unfold M_nt at *
      rw [e 49 (by decide) (by omega), e 50 (by decide) (by omega), e 48 (by decide) (by omega), e 51 (by decide) (by omega), e 52 (by decide) (by omega), e 53 (by decide) (by omega)]
      exact hM
    have E5 : ∀ a, 48 ≤ a → a ≤ 88 → s2 σ1 (tb t) 8 (sg (tb t) 8 + 1) a = sg a := fun a h5 h6 => e a (by omega) (by omega)
    obtain ⟨q1, q2⟩ := mI _ E5
    have pw : ∀ (m2 : Nat) (f2 : Nat → Int32), farI (opE R P D dA dB S false) (fun y => decide (y = to)) f2 → Lv (opE R P D dA dB S false) (fun y => decide (y = to)) m2 fm → wpB P (wyF (opE R P D dA dB S false) f2 fm) m2 = false := by
      intro m2 f2 g1 g2
      have := Lv_uq h2 g2
      subst this
      refine Eq.trans ?_ h3
      exact wp_cg (fun k hk => wy_cg g1 h1 (fun a b ha hb => op_c hN ha hb) pn.2.2.2.2.2.2.2.2.2.2.2.2.1 h2 k hk)
    refine m_piece (T := T) hS hd q1 h8 q2 (hz _ (E5 85 (by decide) (by decide))) hN hM' (fun r2 f2 g => ?_) (fun t2 pl2 k2 i2 w2 fm2 to2 pn2 g => ?_) (fun t2 pl2 k2 i2 w2 fm2 to2 pn2 m2 f2 g1 g2 g3 σ2 g4 => ?_) (fun t2 pl2 k2 i2 w2 fm2 to2 pn2 m2 f2 g1 g2 g3 => ?_)
    · rw [pcV_cg (E5 85 (by decide) (by decide)) (E5 86 (by decide) (by decide)) (E5 87 (by decide) (by decide))] at g
      exact (pc_ex g pn).elim
    all_goals
      rw [pcN_cg (E5 85 (by decide) (by decide)) (E5 86 (by decide) (by decide)) (E5 87 (by decide) (by decide)) (E5 56 (by decide) (by decide)) (E5 57 (by decide) (by decide))] at pn2
      obtain ⟨rfl, rfl, rfl, rfl, rfl, rfl, rfl⟩ := pcN_uq h8 pn pn2
    · rw [st_le h2.1 (show m ≤ 10 by have := lv_9 h2 pn.2.2.2.2.2.2.2.2.2.2.2.2.1; omega)] at g
      exact absurd g (by decide)
    · have e61 : s2 σ1 (tb t) 8 (sg (tb t) 8 + 1) 61 t = sg 61 t := by rw [E5 61 (by decide) (by decide)]
      rw [e61]
      have big : ∀ a j, reg a j ≠ 0 → ¬ (a = 61 ∧ j = t) → ¬ (a = tb t ∧ j = 8) → s2 (s2 σ2 61 t (sg 61 t + 1)) 48 0 0 a j = s2 (s2 sg 0 14 0) 48 0 0 a j := by
        intro a j q z1 z2
        obtain ⟨s1, s2', s3, s4, s5⟩ := scr a j q
        by_cases y : a = 48 ∧ j = 0
        · rw [s2_y y, s2_y y]
        · rw [s2_n (by omega), s2_n (by omega), s2_n (by omega), g4 a j s4, s2_n (by omega), h4 a j s1 s2' s3 s5]
      have g9 := (t0 0).2.2.1 t tt
      have b8 : s2 (s2 σ2 61 t (sg 61 t + 1)) 48 0 0 (tb t) 8 = sg (tb t) 8 + 1 := by rw [s2_n (by omega), s2_n (by omega), g4 _ _ (by omega), s2_y ⟨rfl, rfl⟩]
      have b61 : s2 (s2 σ2 61 t (sg 61 t + 1)) 48 0 0 61 t = sg 61 t + 1 := by rw [s2_n (by omega), s2_y ⟨rfl, rfl⟩]
      have r9 : ∀ a j, 89 ≤ a → reg a j ≠ 0 := fun a j ha => by rw [reg_9 ha]; decide
      have r55 : ∀ a j, 55 ≤ a → a ≤ 62 → reg a j ≠ 0 := fun a j h5 h6 => by
        rcases (show a = 55 ∨ a = 56 ∨ a = 57 ∨ a = 58 ∨ a = 59 ∨ a = 60 ∨ a = 61 ∨ a = 62 by omega) with rfl | rfl | rfl | rfl | rfl | rfl | rfl | rfl <;> (show (3 : Nat) ≠ 0; decide)
      have o1 : I_t1 (s2 (s2 σ2 61 t (sg 61 t + 1)) 48 0 0) (tb t) t := by
        obtain ⟨u0, u1, u2, u3, u5, u6, u7, ⟨e, v1, v2, v3, v4⟩, u9⟩ := g9
        have old : ∀ a j, reg a j ≠ 0 → ¬ (a = 61 ∧ j = t) → ¬ (a = tb t ∧ j = 8) → s2 (s2 σ2 61 t (sg 61 t + 1)) 48 0 0 a j = s2 (s2 sg 0 14 0) 48 0 0 a j := big
        unfold I_t1
        rw [b8, b61, old (tb t) 0 (r9 _ _ ta) (by omega) (by omega), old (tb t) 1 (r9 _ _ ta) (by omega) (by omega), old (tb t) 2 (r9 _ _ ta) (by omega) (by omega), old (tb t) 3 (r9 _ _ ta) (by omega) (by omega), old (tb t) 6 (r9 _ _ ta) (by omega) (by omega), old (tb t) 7 (r9 _ _ ta) (by omega) (by omega), old (tb t) 9 (r9 _ _ ta) (by omega) (by omega), old 55 t (r55 _ _ (by omega) (by omega)) (by omega) (by omega), old 56 t (r55 _ _ (by omega) (by omega)) (by omega) (by omega), old 57 t (r55 _ _ (by omega) (by omega)) (by omega) (by omega), old 60 t (r55 _ _ (by omega) (by omega)) (by omega) (by omega), old 62 t (r55 _ _ (by omega) (by omega)) (by omega) (by omega)]
        have x8 : sg (tb t) 8 = sg 61 t := (hI.2.2.1 t tt).2.2.2.2.2.1
        refine ⟨u0, u1, u2, u3, u5, by rw [x8], u7, ⟨e, v1, v2, fun p z1 z2 => by rw [old 58 _ (r55 _ _ (by omega) (by omega)) (by omega) (by omega)]; exact v3 p z1 z2, by rw [old 58 _ (r55 _ _ (by omega) (by omega)) (by omega) (by omega)]; exact v4⟩, fun p hp => ?_⟩
        rw [old (tb t + 1) p (r9 _ _ (by omega)) (by omega) (by omega), old (tb t + 2) p (r9 _ _ (by omega)) (by omega) (by omega), old 58 _ (r55 _ _ (by omega) (by omega)) (by omega) (by omega), old 59 _ (r55 _ _ (by omega) (by omega)) (by omega) (by omega)]
        exact u9 p hp
      obtain ⟨p1, p2, p3, p4, p5⟩ := pc_post hT hR hDs tt (t0 0) (r0 0) (d0 0) (b0 0) (fun a j q z => big a j q (fun u => z (by unfold tcl; omega)) (fun u => z (by unfold tcl; omega))) o1
      exact ⟨rfl, hk _ _ p1 p2 p3 p4 (((f0 0).w (by decide)).tr (p5.w (by decide)))⟩
    · rw [pw m2 f2 g1 g2] at g3
      exact absurd g3 (by decide)
  · have tt := pn.2.1
    have ta := (hT t tt).2.2.2.2.2.2.1
    have e9 : ∀ a j, 9 ≤ a → ¬ (tb t ≤ a ∧ a ≤ tb t + 2) → σ2 a j = sg a j := fun a j ha hb => by rw [c4 a j (by omega), h4 a j (by omega) (by omega) (by omega) (by omega), s2_n (by omega)]
    have E5 : ∀ a, 48 ≤ a → a ≤ 88 → σ2 a = sg a := fun a h5 h6 => funext (fun j => e9 a j (by omega) (by omega))
    have hM' : M_nt σ2 R P D dA dB S := by
      unfold M_nt at *
      rw [E5 49 (by decide) (by decide), E5 50 (by decide) (by decide), E5 48 (by decide) (by decide), E5 51 (by decide) (by decide), E5 52 (by decide) (by decide), E5 53 (by decide) (by decide)]
      exact hM
    obtain ⟨q1, q2⟩ := mI _ E5
    have pw : ∀ (m2 : Nat) (f2 : Nat → Int32), farI (opE R P D dA dB S false) (fun y => decide (y = to)) f2 → Lv (opE R P D dA dB S false) (fun y => decide (y = to)) m2 fm → wpB P (wyF (opE R P D dA dB S false) f2 fm) m2 = true := by
      intro m2 f2 g1 g2
      have := Lv_uq h2 g2
      subst this
      refine Eq.trans ?_ h3
      exact wp_cg (fun k hk => wy_cg g1 h1 (fun a b ha hb => op_c hN ha hb) pn.2.2.2.2.2.2.2.2.2.2.2.2.1 h2 k hk)
    have pl9 := pn.2.2.2.1
    have w20 := pn.2.2.2.2.2.2.2.2.2.2.2.1
    have w1 := pn.2.2.2.2.2.2.2.2.2.2.1
    have cells := pn.2.2.2.2.2.2.2.2.2.2.2.2.2.2.2.2
    refine m_piece (T := T) hS hd q1 h8 q2 (hz _ (E5 85 (by decide) (by decide))) hN hM' (fun r2 f2 g => ?_) (fun t2 pl2 k2 i2 w2 fm2 to2 pn2 g => ?_) (fun t2 pl2 k2 i2 w2 fm2 to2 pn2 m2 f2 g1 g2 g3 => ?_) (fun t2 pl2 k2 i2 w2 fm2 to2 pn2 m2 f2 g1 g2 g3 σ3 g4 g5 => ?_)
    · rw [pcV_cg (E5 85 (by decide) (by decide)) (E5 86 (by decide) (by decide)) (E5 87 (by decide) (by decide))] at g
      exact (pc_ex g pn).elim
    all_goals
      rw [pcN_cg (E5 85 (by decide) (by decide)) (E5 86 (by decide) (by decide)) (E5 87 (by decide) (by decide)) (E5 56 (by decide) (by decide)) (E5 57 (by decide) (by decide))] at pn2
      obtain ⟨rfl, rfl, rfl, rfl, rfl, rfl, rfl⟩ := pcN_uq h8 pn pn2
    · rw [st_le h2.1 (show m ≤ 10 by have := lv_9 h2 pn.2.2.2.2.2.2.2.2.2.2.2.2.1; omega)] at g
      exact absurd g (by decide)
    · rw [pw m2 f2 g1 g2] at g3
      exact absurd g3 (by decide)
    · have es : stO σ2 t = stO sg t := by unfold stO; rw [E5 58 (by decide) (by decide), E5 59 (by decide) (by decide), E5 60 (by decide) (by decide)]
      rw [es, E5 87 (by decide) (by decide)] at g4
      have g9 := hI.2.2.1 t tt
      obtain ⟨u0, u1, u2, u3, u5, u6, u7, ⟨e', v1, v2, v3, v4⟩, u9⟩ := g9
      have ee : e' = e := nI_inj (by omega) (by omega) v2 e1
      subst ee
      have gb : G_by (stO sg t) := fun p hp => ⟨(u9 p hp).2.1, (u9 p hp).2.2.2⟩
      obtain ⟨k1, k2, k3⟩ := byW_ok (v := fun j => sg 87 (60 * k' + (i' + j))) (p := pl) w' 0 (stO sg t) gb (fun i _ hi => cells i (by omega))
      rw [Nat.zero_add] at k2 k3
      obtain ⟨st', hst⟩ : ∃ st', st' = byW (fun j => sg 87 (60 * k' + (i' + j))) pl w' 0 (stO sg t) := ⟨_, rfl⟩
      rw [← hst] at g4 c1 k1 k2 k3
      obtain ⟨c5, c6⟩ := c1
      obtain ⟨g6, g7⟩ := g4
      have r9 : ∀ a j, 89 ≤ a → reg a j ≠ 0 := fun a j ha => by rw [reg_9 ha]; decide
      have big : ∀ a j, reg a j ≠ 0 → ¬ tcl tb t a j → s2 (s2 σ3 62 t z) 48 0 0 a j = s2 (s2 sg 0 14 0) 48 0 0 a j := by
        intro a j q z1
        unfold tcl at z1
        obtain ⟨s1, s2', s3, s4, s5⟩ := scr a j q
        by_cases y : a = 48 ∧ j = 0
        · rw [s2_y y, s2_y y]
        · rw [s2_n (by omega), s2_n (by omega), s2_n (by omega), g5 a j s4 (by omega) (by omega), c4 a j (by omega), h4 a j s1 s2' s3 s5]
      have hc : ∀ j, s2 (s2 σ3 62 t z) 48 0 0 (tb t) j = σ2 (tb t) j := fun j => by rw [s2_n (by omega), s2_n (by omega), g5 _ _ (by omega) (by omega) (by omega)]
      have ho : ∀ j, j ≠ 6 → j ≠ 7 → j ≠ 9 → σ2 (tb t) j = sg (tb t) j := fun j h5 h6 h7 => by rw [c4 _ _ (by omega), h4 _ _ (by omega) (by omega) (by omega) (by omega), s2_n (by omega)]
      have h55 : ∀ b, 55 ≤ b → b ≤ 61 → b ≠ 58 → b ≠ 59 → b ≠ 60 → s2 (s2 σ3 62 t z) 48 0 0 b t = sg b t := fun b h5 h6 h7 h8 h9 => by rw [s2_n (by omega), s2_n (by omega), g5 _ _ (by omega) (by omega) (by omega), E5 b (by omega) (by omega)]
      have hb1 : ∀ p, p < 79 → s2 (s2 σ3 62 t z) 48 0 0 58 (80 * t + p) = st'.1 p ∧ s2 (s2 σ3 62 t z) 48 0 0 59 (80 * t + p) = st'.2.1 p := fun p hp => ⟨by rw [s2_n (by omega), s2_n (by omega)]; exact (g6 p hp).1, by rw [s2_n (by omega), s2_n (by omega)]; exact (g6 p hp).2⟩
      have hb2 : ∀ p, p < 79 → s2 (s2 σ3 62 t z) 48 0 0 (tb t + 1) p = st'.1 p ∧ s2 (s2 σ3 62 t z) 48 0 0 (tb t + 2) p = st'.2.1 p := fun p hp => ⟨by rw [s2_n (by omega), s2_n (by omega), g5 _ _ (by omega) (by omega) (by omega)]; exact (c5 p hp).1, by rw [s2_n (by omega), s2_n (by omega), g5 _ _ (by omega) (by omega) (by omega)]; exact (c5 p hp).2⟩
      have h60 : s2 (s2 σ3 62 t z) 48 0 0 60 t = st'.2.2 := by rw [s2_n (by omega), s2_n (by omega)]; exact g7
      have h62 : s2 (s2 σ3 62 t z) 48 0 0 62 t = z := by rw [s2_n (by omega), s2_y ⟨rfl, rfl⟩]
      have o1 : I_t1 (s2 (s2 σ3 62 t z) 48 0 0) (tb t) t := by
        unfold I_t1
        rw [hc, hc, hc, hc, hc, hc, hc, hc, ho 0 (by decide) (by decide) (by decide), ho 1 (by decide) (by decide) (by decide), ho 2 (by decide) (by decide) (by decide), ho 3 (by decide) (by decide) (by decide), ho 8 (by decide) (by decide) (by decide), c6, c2, c3, h60, h62, h55 55 (by omega) (by omega) (by omega) (by omega) (by omega), h55 56 (by omega) (by omega) (by omega) (by omega) (by omega), h55 57 (by omega) (by omega) (by omega) (by omega) (by omega), h55 61 (by omega) (by omega) (by omega) (by omega) (by omega)]
        refine ⟨u0, u1, u2, u3, rfl, u6, rfl, ⟨if e' < pl + w' then pl + w' else e', by split <;> omega, rfl, fun p z1 z2 => ?_, ?_⟩, fun p hp => ?_⟩
        · have z3 : pl + w' ≤ p ∧ e' ≤ p := by split at z1 <;> omega
          rw [(hb1 p z2).1, k2 p (Or.inr (by omega))]
          exact v3 p z3.2 z2
        · refine Or.inr ?_
          by_cases y : e' < pl + w'
          · rw [if_pos y, (hb1 (pl + w' - 1) (by omega)).1]
            exact k3 _ (by omega) (by omega)
          · rw [if_neg y, (hb1 (e' - 1) (by omega)).1]
            by_cases y2 : e' - 1 < pl + w'
            · exact k3 _ (by omega) (by omega)
            · rw [k2 _ (Or.inr (by omega))]
              exact v4.resolve_left (by omega)
        · rw [(hb1 p hp).1, (hb1 p hp).2, (hb2 p hp).1, (hb2 p hp).2]
          exact ⟨rfl, (k1 p hp).1, rfl, (k1 p hp).2⟩
      obtain ⟨p1, p2, p3, p4, p5⟩ := pc_post hT hR hDs tt (t0 0) (r0 0) (d0 0) (b0 0) big o1
      exact ⟨rfl, hk _ _ p1 p2 p3 p4 (((f0 0).w (by decide)).tr (p5.w (by decide)))⟩
end H68
