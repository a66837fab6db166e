/-! part 79: row, both together -/
section H79
variable {d n N T Q F : Nat} {mu : aM} {ro : aR} {sg σ : aS} {K : Option Value → aS → Prop} {tb rb : Nat → Nat} {KA : Option Value → Nat → aM → aR → aS → Prop}
theorem rwV_cg {s s' : aS} {k i w : Nat} (h : s' 87 = s 87) : rwV s' Q k i w = rwV s Q k i w := by unfold rwV; rw [h]
set_option maxHeartbeats 4000000 in
set_option maxRecDepth 100000 in
theorem b_row {x l i w : Int32} {KB : Nat → aM → aR → aS → Prop} (hS : Sh mu ro) (hd : 6 ≤ d) (hn : 89 ≤ n) (hT : S_tk mu ro n T tb) (hR : S_rw mu ro n Q rb) (hDs : S_ds T Q tb rb) (hI : I_tk sg T tb) (hJ : I_rw sg Q rb) (hF : I_fd sg F T) (hH : I_sh sg) (hk0 : ∀ sg', I_sh sg' → Fr [13] sg sg' → KB n mu ro sg')
    (hk1 : ∀ mu' ro' sg', Sh mu' ro' → S_tk mu' ro' (n + 2) T tb → S_rw mu' ro' (n + 2) (Q + 1) (fun r => if r = Q then n else rb r) → S_ds T (Q + 1) tb (fun r => if r = Q then n else rb r) → I_tk sg' T tb → I_rw sg' (Q + 1) (fun r => if r = Q then n else rb r) → I_fd sg' F T → I_sh sg' → Fr [3, 13] sg sg' → KB (n + 2) mu' ro' sg') : aCallA 2 8 d 104 [.ref 0, .int x, .int l, .int i, .int w] n mu ro sg (fun r1 n1 mu1 ro1 sg1 => mu1 48 = (22, 55) ∧ aCall d 187 [.ref 48, .int x, .int l, .int i, .int w] n1 mu1 ro1 sg1 (fun r2 sg2 => r1 = r2 ∧ KB n1 mu1 ro1 sg2)) := by
  obtain ⟨⟨i1, i2⟩, i3, i4⟩ := id hJ
  have hf : ∀ v, KB n mu ro (s2 (s2 sg 0 14 v) 48 0 v) := fun v => hk0 _ (hH.ft ft2.1 ft2.2) Fr_f2
  have e85 : ∀ f j, s2 sg 0 14 f 85 j = sg 85 j := fun f j => s2_n (by omega)
  have e86 : ∀ f j, s2 sg 0 14 f 86 j = sg 86 j := fun f j => s2_n (by omega)
  have e87 : ∀ f, s2 sg 0 14 f 87 = sg 87 := fun f => funext (fun j => s2_n (by omega))
  have m48 : mu 48 = (22, 55) := by simp only [SHm hS]
  refine c_row hS hd hn hH i1 i3 (fun r f h1 => ⟨m48, ?_⟩) (fun k i' w' r h1 hx hi hw h4 h5 => ⟨m48, ?_⟩) (fun k i' w' h1 hx hi hw h4 h5 mu' ro' sg' hP => ⟨by rw [hP.1.1 48 (by omega), m48], ?_⟩)
  · refine m_row (Q := Q) hS hd (fun k hk4 => by rw [e85]; exact (sh_say hH hk4).1) (by rw [s2_n (by omega)]; exact i2) i3 (fun r2 f2 h2 => ?_) (fun k i' w' r2 h2 => ?_) (fun k i' w' h2 => ?_)
    · rw [tkV_fr (e85 f) (e86 f), h1] at h2
      obtain ⟨rfl, rfl⟩ := Prod.mk.inj (Option.some.inj h2)
      exact ⟨rfl, hf _⟩
    · rw [tkV_fr (e85 f) (e86 f), h1] at h2
      exact absurd h2 (by simp)
    · rw [tkV_fr (e85 f) (e86 f), h1] at h2
      exact absurd h2 (by simp)
  · refine m_row (Q := Q) hS hd (fun k hk4 => by rw [e85]; exact (sh_say hH hk4).1) (by rw [s2_n (by omega)]; exact i2) i3 (fun r2 f2 h2 => ?_) (fun k2 i2' w2 r2 h2 hx2 hi2 hw2 k4 k5 h6 => ?_) (fun k2 i2' w2 h2 hx2 hi2 hw2 k4 k5 h6 => ?_)
    · rw [tkV_fr (e85 0) (e86 0), h1] at h2
      exact absurd h2 (by simp)
    all_goals
      have g1 := h4.1
      have g2 := h4.2.1
      have z1 : k = k2 := (nI_eq (by omega) (by omega)).mp (hx.symm.trans hx2)
      have z2 : i' = i2' := (nI_eq (by omega) (by omega)).mp (hi.symm.trans hi2)
      have z3 : w' = w2 := (nI_eq (by omega) (by omega)).mp (hw.symm.trans hw2)
      subst z1 z2 z3
      rw [rwV_cg (e87 0), h5] at h6
    · rw [Option.some.inj h6]
      exact ⟨rfl, hf _⟩
    · cases h6
  · obtain ⟨⟨a1, a2, a3⟩, ⟨b1, b2, b3⟩, c1, c2, c3, c4, c5⟩ := hP
    obtain ⟨⟨w1, w2⟩, w3⟩ := rwV_i h5
    obtain ⟨g1, g2, g3⟩ := id h4
    have hS' : Sh mu' ro' := hS.up (fun c hc => a1 c (by omega)) (fun c k hc _ h2 => b1 c k (by omega) (by omega))
    have d85 : ∀ j, sg' 85 j = sg 85 j := fun j => c1 85 j (by omega) (by omega)
    have d86 : ∀ j, sg' 86 j = sg 86 j := fun j => c1 86 j (by omega) (by omega)
    have d87 : sg' 87 = sg 87 := funext (fun j => c1 87 j (by omega) (by omega))
    refine m_row (Q := Q) hS' hd (fun k hk4 => by rw [d85]; exact (sh_say hH hk4).1) (by rw [c1 48 18 (by omega) (by omega)]; exact i2) i3 (fun r2 f2 h2 => ?_) (fun k2 i2' w2 r2 h2 hx2 hi2 hw2 k4 k5 h6 => ?_) (fun k2 i2' w2' h2 hx2 hi2 hw2 k4 k5 h6 => ⟨rfl, ?_⟩)
    · rw [tkV_fr d85 d86, h1] at h2
      exact absurd h2 (by simp)
    all_goals
      have z1 : k = k2 := (nI_eq (by omega) (by omega)).mp (hx.symm.trans hx2)
      have z2 : i' = i2' := (nI_eq (by omega) (by omega)).mp (hi.symm.trans hi2)
      have z3 := (nI_eq (by omega) (by omega)).mp (hw.symm.trans hw2)
      subst z1 z2 z3
    · rw [rwV_cg d87, h5] at h6
      cases h6
    have e : ∀ c q, c < n → ¬ (c = 0 ∧ (q = 12 ∨ q = 14)) → ¬ (c = 48 ∧ (q = 18 ∨ q = 0)) → ¬ (c = 63 ∧ q = Q) → ¬ (c = 64 ∧ 6 * Q ≤ q ∧ q < 6 * Q + w') → rwM sg' Q k i' w' c q = sg c q := fun c q hc q1 q2 q3 q4 => by
      unfold rwM
      rw [s2_n (by omega), s2_n (by omega), rg_n (by omega), s2_n (by omega), c1 c q hc q1]
    have e2 : ∀ c q, n ≤ c → rwM sg' Q k i' w' c q = sg' c q := fun c q hc => by
      unfold rwM
      rw [s2_n (by omega), s2_n (by omega), rg_n (by omega), s2_n (by omega)]
    have f1 : rwM sg' Q k i' w' 48 18 = nI (Q + 1) := by
      unfold rwM
      rw [s2_n (by omega), s2_y ⟨rfl, rfl⟩]
    have f2 : rwM sg' Q k i' w' 0 12 = nI (Q + 1) := by
      unfold rwM
      rw [s2_n (by omega), s2_n (by omega), rg_n (by omega), s2_n (by omega), c2]
    have f3 : rwM sg' Q k i' w' 0 14 = 0 := by
      unfold rwM
      rw [s2_n (by omega), s2_n (by omega), rg_n (by omega), s2_n (by omega), c3]
    have f4 : rwM sg' Q k i' w' 48 0 = 0 := s2_y ⟨rfl, rfl⟩
    have f5 : rwM sg' Q k i' w' 63 Q = nI w' := by
      unfold rwM
      rw [s2_n (by omega), s2_n (by omega), rg_n (by omega), s2_y ⟨rfl, rfl⟩]
    have f6 : ∀ y, y < w' → rwM sg' Q k i' w' 64 (6 * Q + y) = sg 87 (60 * k + i' + y) := fun y hy => by
      unfold rwM
      rw [s2_n (by omega), s2_n (by omega), rg_y ⟨rfl, by omega, by omega⟩, d87, Nat.add_sub_cancel_left]
    obtain ⟨σ, hσ⟩ : ∃ s : aS, s = rwM sg' Q k i' w' := ⟨_, rfl⟩
    rw [← hσ] at e e2 f1 f2 f3 f4 f5 f6 ⊢
    have hw := allB_at w' _ w2
    refine hk1 _ _ _ hS' ?_ ?_ ?_ ?_ ?_ ?_ ?_ ?_
    · intro t ht
      obtain ⟨t1, t2, t3, t4, t5, t6, t7, t8⟩ := hT t ht
      exact ⟨by rw [b1 13 t (by omega) (by omega)]; exact t1, by rw [a1 _ (by omega)]; exact t2, by rw [b1 _ _ (by omega) (by omega)]; exact t3, by rw [b1 _ _ (by omega) (by omega)]; exact t4, by rw [a1 _ (by omega)]; exact t5, by rw [a1 _ (by omega)]; exact t6, t7, by omega⟩
    · intro r hr
      by_cases q : r = Q
      · subst q
        simp only [if_true]
        exact ⟨b2, a2, b3, a3, hn, by omega⟩
      · obtain ⟨t1, t2, t3, t4, t5, t6⟩ := hR r (by omega)
        simp only [if_neg q]
        exact ⟨by rw [b1 14 r (by omega) (by omega)]; exact t1, by rw [a1 _ (by omega)]; exact t2, by rw [b1 _ _ (by omega) (by omega)]; exact t3, by rw [a1 _ (by omega)]; exact t4, t5, by omega⟩
    · obtain ⟨d1, d2, d3⟩ := hDs
      refine ⟨d1, fun t r ht hr => ?_, fun t u ht hu htu => ?_⟩
      · show tb t + 3 ≤ (if r = Q then n else rb r) ∨ (if r = Q then n else rb r) + 2 ≤ tb t
        by_cases q : r = Q
        · have := (hT t ht).2.2.2.2.2.2.2
          rw [if_pos q]; omega
        · rw [if_neg q]
          exact d2 t r ht (by omega)
      · show (if t = Q then n else rb t) + 2 ≤ (if u = Q then n else rb u) ∨ (if u = Q then n else rb u) + 2 ≤ (if t = Q then n else rb t)
        by_cases q : t = Q
        · have q2 : ¬ u = Q := by omega
          have := (hR u (by omega)).2.2.2.2.2
          rw [if_pos q, if_neg q2]; omega
        · by_cases q2 : u = Q
          · have := (hR t (by omega)).2.2.2.2.2
            rw [if_neg q, if_pos q2]; omega
          · rw [if_neg q, if_neg q2]
            exact d3 t u (by omega) (by omega) htu
    · obtain ⟨⟨j1, j2⟩, j3, j4, j5⟩ := hI
      refine ⟨⟨by rw [e 0 11 (by omega) (by omega) (by omega) (by omega) (by omega)]; exact j1, by rw [e 48 9 (by omega) (by omega) (by omega) (by omega) (by omega)]; exact j2⟩, j3, fun t ht => ?_, fun t ht ht2 => ?_⟩
      · have g := hT t ht
        have g7 := g.2.2.2.2.2.2.1
        have g8 := g.2.2.2.2.2.2.2
        have oo : ∀ c, c < n → c ≠ 0 → c ≠ 48 → c ≠ 63 → c ≠ 64 → σ c = sg c := fun c q1 q2 q3 q4 q5 => funext (fun y => e c y q1 (by omega) (by omega) (by omega) (by omega))
        have h9 := j4 t ht
        unfold I_t1 at *
        rw [oo (tb t) (by omega) (by omega) (by omega) (by omega) (by omega), oo (tb t + 1) (by omega) (by omega) (by omega) (by omega) (by omega), oo (tb t + 2) (by omega) (by omega) (by omega) (by omega) (by omega), oo 55 (by omega) (by omega) (by omega) (by omega) (by omega), oo 56 (by omega) (by omega) (by omega) (by omega) (by omega), oo 57 (by omega) (by omega) (by omega) (by omega) (by omega), oo 58 (by omega) (by omega) (by omega) (by omega) (by omega), oo 59 (by omega) (by omega) (by omega) (by omega) (by omega), oo 60 (by omega) (by omega) (by omega) (by omega) (by omega), oo 61 (by omega) (by omega) (by omega) (by omega) (by omega), oo 62 (by omega) (by omega) (by omega) (by omega) (by omega)]
        exact h9
      · obtain ⟨t1, t2, t3⟩ := j5 t ht ht2
        exact ⟨by rw [e 60 t (by omega) (by omega) (by omega) (by omega) (by omega)]; exact t1, by rw [e 61 t (by omega) (by omega) (by omega) (by omega) (by omega)]; exact t2, fun p hp => by rw [e 58 _ (by omega) (by omega) (by omega) (by omega) (by omega), e 59 _ (by omega) (by omega) (by omega) (by omega) (by omega)]; exact t3 p hp⟩
    · refine ⟨⟨f2, f1⟩, by omega, fun r hr => ?_⟩
      by_cases q : r = Q
      · subst q
        simp only [if_true]
        refine ⟨w', w1.1, w1.2, by rw [e2 _ _ (by omega)]; exact c4, f5, fun y hy => ?_⟩
        rw [e2 _ _ (by omega), f6 y hy, c5 y hy, g3 y hy, Nat.add_assoc]
        have := hw y hy
        rw [Nat.add_assoc] at this
        exact ⟨rfl, this⟩
      · simp only [if_neg q]
        obtain ⟨t1, t2, t3, t4, t5, t6⟩ := hR r (by omega)
        obtain ⟨z, z1, z2, z3, z4, z5⟩ := i4 r (by omega)
        exact ⟨z, z1, z2, by rw [e _ _ (by omega) (by omega) (by omega) (by omega) (by omega)]; exact z3, by rw [e 63 r (by omega) (by omega) (by omega) (by omega) (by omega)]; exact z4, fun y hy => by rw [e _ _ (by omega) (by omega) (by omega) (by omega) (by omega), e 64 _ (by omega) (by omega) (by omega) (by omega) (by omega)]; exact z5 y hy⟩
    · obtain ⟨⟨j1, j2⟩, j3, j4, j5⟩ := hF
      have oo : ∀ c, c < n → c ≠ 0 → c ≠ 48 → c ≠ 63 → c ≠ 64 → σ c = sg c := fun c q1 q2 q3 q4 q5 => funext (fun y => e c y q1 (by omega) (by omega) (by omega) (by omega))
      refine ⟨⟨by rw [oo 15 (by omega) (by omega) (by omega) (by omega) (by omega)]; exact j1, by rw [e 48 21 (by omega) (by omega) (by omega) (by omega) (by omega)]; exact j2⟩, j3, fun f hf => ?_, fun f hf hf2 => by rw [oo 20 (by omega) (by omega) (by omega) (by omega) (by omega)]; exact j5 f hf hf2⟩
      have h9 := j4 f hf
      unfold I_f1 at *
      rw [oo 16 (by omega) (by omega) (by omega) (by omega) (by omega), oo 17 (by omega) (by omega) (by omega) (by omega) (by omega), oo 18 (by omega) (by omega) (by omega) (by omega) (by omega), oo 19 (by omega) (by omega) (by omega) (by omega) (by omega), oo 20 (by omega) (by omega) (by omega) (by omega) (by omega), oo 56 (by omega) (by omega) (by omega) (by omega) (by omega), oo 65 (by omega) (by omega) (by omega) (by omega) (by omega), oo 66 (by omega) (by omega) (by omega) (by omega) (by omega), oo 67 (by omega) (by omega) (by omega) (by omega) (by omega), oo 68 (by omega) (by omega) (by omega) (by omega) (by omega)]
      exact h9
    · refine hH.fr (fun c q h => ?_) (by rw [f3, f4])
      refine e c q ?_ ?_ ?_ ?_ ?_
      · rcases Nat.lt_or_ge c n with z | z
        · exact z
        · rw [reg_9 (by omega)] at h; cases h
      · rintro ⟨rfl, rfl | rfl⟩ <;> cases h
      · rintro ⟨rfl, rfl | rfl⟩ <;> cases h
      · rintro ⟨rfl, -⟩; cases h
      · rintro ⟨rfl, -⟩; cases h
    · intro c q q1 q2
      refine e c q ?_ ?_ ?_ ?_ ?_
      · rcases Nat.lt_or_ge c n with z | z
        · exact z
        · exact absurd (by rw [reg_9 (by omega)]; decide) q1
      · rintro ⟨rfl, rfl | rfl⟩ <;> exact q1 (by decide)
      · rintro ⟨rfl, rfl | rfl⟩ <;> exact q1 (by decide)
      · rintro ⟨rfl, -⟩; exact q1 (by rw [show reg 63 q = 3 from rfl]; decide)
      · rintro ⟨rfl, -⟩; exact q1 (by rw [show reg 64 q = 3 from rfl]; decide)
end H79
