/-! part 68: piece on both sides, the end -/
section H68
variable {d n N T Q F : Nat} {mu : aM} {ro : aR} {sg σ : aS} {K : Option Value → aS → Prop} {tb rb : Nat → Nat}
set_option maxHeartbeats 4000000 in
set_option maxRecDepth 100000 in
theorem b_piece {x y z k l i w : Int32} (hS : Sh mu ro) (hd : 6 ≤ d) (hT : S_tk mu ro n T tb) (hR : S_rw mu ro n Q rb) (hDs : S_ds T Q tb rb) (hI : I_tk sg T tb) (hJ : I_rw sg Q rb) (hF : I_fd sg F T) (hH : I_sh sg) (hNt : I_nt sg) (hk : ∀ r sg2, I_sh sg2 → I_tk sg2 T tb → I_rw sg2 Q rb → I_fd sg2 F T → Fr [3, 13] sg sg2 → K r sg2) : aCall d 101 [.ref 0, .int x, .int y, .int z, .int k, .int l, .int i, .int w] n mu ro sg (fun r1 sg1 => aCall d 180 [.ref 48, .int x, .int y, .int z, .int k, .int l, .int i, .int w] n mu ro sg1 (fun r2 sg2 => r1 = r2 ∧ K r1 sg2)) := by
  obtain ⟨R, P, D, dA, dB, S, hN, hX, hM⟩ := id hNt
  have h8 := hI.2.1
  have hz : ∀ s' : aS, s' 85 = sg 85 → ∀ k, k < 4 → (s' 85 k).toInt ≤ 60 := fun s' e k hk4 => by rw [e]; exact (sh_say hH hk4).1
  have b0 : ∀ v, I_sh (s2 (s2 sg 0 14 v) 48 0 v) := fun v => hH.ft ft2.1 ft2.2
  have f0 : ∀ v, Fr [13] sg (s2 (s2 sg 0 14 v) 48 0 v) := fun v => Fr_f2
  have t0 : ∀ v, I_tk (s2 (s2 sg 0 14 v) 48 0 v) T tb := fun v => hI.fr hT ((f0 v).to (by decide) (by decide))
  have r0 : ∀ v, I_rw (s2 (s2 sg 0 14 v) 48 0 v) Q rb := fun v => hJ.fr hR ((f0 v).to (by decide) (by decide))
  have d0 : ∀ v, I_fd (s2 (s2 sg 0 14 v) 48 0 v) F T := fun v => hF.fr ((f0 v).to (by decide) (by decide))
  have fin : ∀ v r, K r (s2 (s2 sg 0 14 v) 48 0 v) := fun v r => hk _ _ (b0 v) (t0 v) (r0 v) (d0 v) ((f0 v).w (by decide))
  -- where only what is used again has changed beside
  have fin2 : ∀ r s', (∀ a k, reg a k ≠ 0 → s' a k = s2 (s2 sg 0 14 0) 48 0 0 a k) → K r s' := by
    intro r s' h
    have fr : Fr [] (s2 (s2 sg 0 14 0) 48 0 0) s' := fun a k _ q => h a k q
    exact hk _ _ ((b0 0).fr2 (fun a k q => h a k (by rcases q with q | q <;> (rw [q]; decide)))) ((t0 0).fr hT (fr.to (by decide) (by decide))) ((r0 0).fr hR (fr.to (by decide) (by decide))) ((d0 0).fr (fr.to (by decide) (by decide))) (((f0 0).w (by decide)).tr (fr.w (by decide)))
  have scr : ∀ a k, reg a k ≠ 0 → a ≠ 6 ∧ a ≠ 7 ∧ a ≠ 8 ∧ a ≠ 54 ∧ ¬ (a = 1 ∧ k = 7) := by
    intro a k q
    refine ⟨?_, ?_, ?_, ?_, ?_⟩
    · rintro rfl; exact q rfl
    · rintro rfl; exact q rfl
    · rintro rfl; exact q rfl
    · rintro rfl; exact q rfl
    · rintro ⟨rfl, rfl⟩; exact q rfl
  refine c_piece hS hd hT hI hH hN hX (fun r f h1 => ?_) (fun t pl k' i' w' fm to pn h1 σ1 h2 => ?_) (fun t pl k' i' w' fm to pn m f h1 h2 h3 σ1 h4 => ?_) (fun t pl k' i' w' fm to pn m f h1 h2 h3 e e1 e2 σ1 σ2 h4 c1 c2 c3 c4 => ?_)
  · have e : ∀ a, a ≠ 0 → s2 sg 0 14 f a = sg a := fun a ha => funext (fun j => s2_n (by omega))
    have fr : Fr [13] sg (s2 sg 0 14 f) := Fr_f
    refine m_piece (tb := tb) (T := T) hS hd (hI.fr hT (fr.to (by decide) (by decide))) (hz _ (e 85 (by decide))) hN hM (fun r2 f2 g => ?_) (fun t pl k' i' w' fm to pn => ?_) (fun t pl k' i' w' fm to pn => ?_) (fun t pl k' i' w' fm to pn => ?_)
    · rw [pcV_cg (e 85 (by decide)) (e 86 (by decide)) (e 87 (by decide))] at g
      obtain ⟨rfl, rfl⟩ := pc_uq h1 g
      exact ⟨rfl, fin _ _⟩
    all_goals
      rw [pcN_cg (e 85 (by decide)) (e 86 (by decide)) (e 87 (by decide)) (e 56 (by decide)) (e 57 (by decide))] at pn
      exact (pc_ex h1 pn).elim
  · have e : ∀ a, 9 ≤ a → σ1 a = sg a := fun a ha => funext (fun j => by rw [h2 a j (by omega) (by omega) (by omega) (by omega), s2_n (by omega)])
    have fr : Fr [13] sg σ1 := Fr.tr (Fr_f (x := 0)) (fun a j _ q2 => h2 a j (scr a j q2).1 (scr a j q2).2.1 (scr a j q2).2.2.1 (scr a j q2).2.2.2.2)
    refine m_piece (tb := tb) (T := T) hS hd (hI.fr hT (fr.to (by decide) (by decide))) (hz _ (e 85 (by decide))) hN (h2.m hM) (fun r2 f2 g => ?_) (fun t2 pl2 k2 i2 w2 fm2 to2 pn2 _ σ2 h3 => ⟨rfl, fin2 _ _ (fun a j q => ?_)⟩) (fun t2 pl2 k2 i2 w2 fm2 to2 pn2 m2 f2 g1 g2 => ?_) (fun t2 pl2 k2 i2 w2 fm2 to2 pn2 m2 f2 g1 g2 => ?_)
    · rw [pcV_cg (e 85 (by decide)) (e 86 (by decide)) (e 87 (by decide))] at g
      exact (pc_ex g pn).elim
    · obtain ⟨s1, s2', s3, s4, s5⟩ := scr a j q
      by_cases y : a = 48 ∧ j = 0
      · rw [s2_y y, s2_y y]
      · rw [s2_n (by omega), s2_n (by omega), h3 a j s4, h2 a j s1 s2' s3 s5]
    all_goals
      rw [pcN_cg (e 85 (by decide)) (e 86 (by decide)) (e 87 (by decide)) (e 56 (by decide)) (e 57 (by decide))] at pn2
      obtain ⟨rfl, rfl, rfl, rfl, rfl, rfl, rfl⟩ := pcN_uq h8 pn pn2
      rw [st_le g2.1 (show m2 ≤ 10 by have := lv_9 g2 pn.2.2.2.2.2.2.2.2.2.2.2.2.1; omega)] at h1
      exact absurd h1 (by decide)
  · have e : ∀ a, 9 ≤ a → a ≠ tb t → s2 σ1 (tb t) 8 (sg (tb t) 8 + 1) a = sg a := fun a ha hb => funext (fun j => by rw [s2_n (by omega), h4 a j (by omega) (by omega) (by omega) (by omega), s2_n (by omega)])
    have tt := pn.2.1
    have ta := (hT t tt).2.2.2.2.2.2.1
    have hM' : M_nt (s2 σ1 (tb t) 8 (sg (tb t) 8 + 1)) R P D dA dB S := by
      unfold M_nt at *
      rw [e 49 (by decide) (by omega), e 50 (by decide) (by omega), e 48 (by decide) (by omega), e 51 (by decide) (by omega), e 52 (by decide) (by omega), e 53 (by decide) (by omega)]
      exact hM
    have E5 : ∀ a, 48 ≤ a → a ≤ 88 → s2 σ1 (tb t) 8 (sg (tb t) 8 + 1) a = sg a := fun a h5 h6 => e a (by omega) (by omega)
    -- the reference reads nothing of the class's talks
    have hI' : ∃ tb', I_tk (s2 σ1 (tb t) 8 (sg (tb t) 8 + 1)) T tb' := ⟨tb, sorry⟩
    sorry
  · sorry
end H68
