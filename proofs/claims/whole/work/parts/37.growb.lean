/-! part 37: grow on both sides -/
section H37
variable {d n N : Nat} {mu : aM} {ro : aR} {sg : aS} {K : Option Value → aS → Prop}
theorem I_sh.fr2 {s s' : aS} (h : I_sh s) (hf : ∀ a k, reg a k = 11 ∨ reg a k = 13 → s' a k = s a k) : I_sh s' := by
  have e1 : s' 0 14 = s 0 14 := hf _ _ (Or.inr rfl)
  have e2 : s' 48 0 = s 48 0 := hf _ _ (Or.inr rfl)
  have f85 : ∀ j, s' 85 j = s 85 j := fun j => hf _ _ (Or.inl rfl)
  have f86 : ∀ j, s' 86 j = s 86 j := fun j => hf _ _ (Or.inl rfl)
  have f87 : ∀ j, s' 87 j = s 87 j := fun j => hf _ _ (Or.inl rfl)
  have f40 : ∀ j, s' 40 j = s 40 j := fun j => hf _ _ (Or.inl rfl)
  have f41 : ∀ j, s' 41 j = s 41 j := fun j => hf _ _ (Or.inl rfl)
  have f42 : ∀ j, s' 42 j = s 42 j := fun j => hf _ _ (Or.inl rfl)
  have f43 : ∀ j, s' 43 j = s 43 j := fun j => hf _ _ (Or.inl rfl)
  have f44 : ∀ j, s' 44 j = s 44 j := fun j => hf _ _ (Or.inl rfl)
  have f45 : ∀ j, s' 45 j = s 45 j := fun j => hf _ _ (Or.inl rfl)
  have f46 : ∀ j, s' 46 j = s 46 j := fun j => hf _ _ (Or.inl rfl)
  have f47 : ∀ j, s' 47 j = s 47 j := fun j => hf _ _ (Or.inl rfl)
  unfold I_sh I_sh1 at *
  simp only [e1, e2, f85, f86, f87, f40, f41, f42, f43, f44, f45, f46, f47]
  exact h
theorem grR_fr {s s' : aS} {L : Nat → Nat} {k i w : Nat} (h1 : ∀ j, s' 87 j = s 87 j) (h2 : s' 48 39 = s 48 39) : grR s' L N k i w = grR s L N k i w ∧ grG s' k i = grG s k i := by
  have e : s' 87 = s 87 := funext h1
  unfold grR grG
  rw [e, h2]
  exact ⟨rfl, rfl⟩
set_option maxHeartbeats 4000000 in
set_option maxRecDepth 100000 in
theorem b_grow {x l i w : Int32} (hS : Sh mu ro) (hd : 6 ≤ d) (hI : I_sh sg) (hT : I_tp sg N) (hk : ∀ r sg2 N', I_sh sg2 → I_tp sg2 N' → Fr [9, 13] sg sg2 → K r sg2) : aCall d 121 [.ref 0, .int x, .int l, .int i, .int w] n mu ro sg (fun r1 sg1 => aCall d 217 [.ref 48, .int x, .int l, .int i, .int w] n mu ro sg1 (fun r2 sg2 => r1 = r2 ∧ K r1 sg2)) := by
  have hf : ∀ v r, K r (s2 (s2 sg 0 14 v) 48 0 v) := fun v r => hk _ _ N (hI.ft ft2.1 ft2.2) (hT.fr (Fr_f2.to (by decide) (by decide))) (Fr_f2.w (by decide))
  have hI0 : I_sh (s2 (s2 sg 0 14 0) 48 0 0) := hI.ft ft2.1 ft2.2
  obtain ⟨L, cb, t1, t2, t3⟩ := tp_of hT
  have hb := hT.2.2.2.1
  have ha := hT.2.2.2.2.1
  have e85 : ∀ f j, s2 sg 0 14 f 85 j = sg 85 j := fun f j => s2_n (by omega)
  have e86 : ∀ f j, s2 sg 0 14 f 86 j = sg 86 j := fun f j => s2_n (by omega)
  have e87 : ∀ f j, s2 sg 0 14 f 87 j = sg 87 j := fun f j => s2_n (by omega)
  have hz : ∀ f k, k < 4 → (s2 sg 0 14 f 85 k).toInt ≤ 60 := fun f k hk4 => by rw [e85]; exact (sh_say hI hk4).1
  have hM : ∀ f, M_tp (s2 sg 0 14 f) L N := fun f => ⟨by rw [s2_n (by omega)]; exact t3.1, fun x hx => by rw [s2_n (by omega)]; exact t3.2 x hx⟩
  refine c_grow hS hd hI t1 t2 hb (fun r f h1 => ?_) (fun k i' w' r h1 h2 h3 h4 h5 h6 => ?_) (fun k i' w' h1 h2 h3 h4 h5 h6 σ h7 h8 => ?_)
  · refine m_grow (L := L) (cb := cb) hS (by omega) (hz f) t1 (hM f) (fun r2 f2 h2 => ?_) (fun k i' w' r2 h2 => ?_) (fun k i' w' h2 => ?_)
    · rw [tkV_fr (e85 f) (e86 f), h1] at h2
      obtain ⟨rfl, rfl⟩ := Prod.mk.inj (Option.some.inj h2)
      exact ⟨rfl, hf _ _⟩
    · rw [tkV_fr (e85 f) (e86 f), h1] at h2
      exact absurd h2 (by simp)
    · rw [tkV_fr (e85 f) (e86 f), h1] at h2
      exact absurd h2 (by simp)
  · obtain ⟨q1, q2, q3⟩ := h5
    have eg := fun k i w => grR_fr (N := N) (L := L) (k := k) (i := i) (w := w) (e87 0) (s2_n (s := sg) (a := 0) (k := 14) (b := 48) (j := 39) (x := 0) (by omega))
    refine m_grow (L := L) (cb := cb) hS (by omega) (hz 0) t1 (hM 0) (fun r2 f2 h7 => ?_) (fun k2 i2 w2 r2 g1 g2 g3 g4 g5 g6 g7 => ?_) (fun k2 i2 w2 g1 g2 g3 g4 g5 g6 g7 => ?_)
    · rw [tkV_fr (e85 0) (e86 0), h1] at h7
      exact absurd h7 (by simp)
    · have z1 : k = k2 := (nI_eq (by omega) (by omega)).mp (h2.symm.trans g2)
      have z2 : i' = i2 := (nI_eq (by omega) (by omega)).mp (h3.symm.trans g3)
      have z3 : w' = w2 := (nI_eq (by omega) (by omega)).mp (h4.symm.trans g4)
      subst z1 z2 z3
      rw [(eg _ _ _).1, h6] at g7
      have := Option.some.inj g7
      subst this
      exact ⟨rfl, hf _ _⟩
    · have z1 : k = k2 := (nI_eq (by omega) (by omega)).mp (h2.symm.trans g2)
      have z2 : i' = i2 := (nI_eq (by omega) (by omega)).mp (h3.symm.trans g3)
      have z3 : w' = w2 := (nI_eq (by omega) (by omega)).mp (h4.symm.trans g4)
      subst z1 z2 z3
      rw [(eg _ _ _).1, h6] at g7
      exact absurd g7 (by simp)
  · obtain ⟨q1, q2, q3⟩ := h5
    have o85 : ∀ j, σ 85 j = sg 85 j := fun j => (h8 85 j (by omega)).trans (e85 0 j)
    have o86 : ∀ j, σ 86 j = sg 86 j := fun j => (h8 86 j (by omega)).trans (e86 0 j)
    have o87 : ∀ j, σ 87 j = sg 87 j := fun j => (h8 87 j (by omega)).trans (e87 0 j)
    have o75 : ∀ j, σ 75 j = sg 75 j := fun j => (h8 75 j (by omega)).trans (s2_n (by omega))
    have o48 : ∀ j, σ 48 j = sg 48 j := fun j => (h8 48 j (by omega)).trans (s2_n (by omega))
    have eg := fun k i w => grR_fr (N := N) (L := L) (k := k) (i := i) (w := w) o87 (o48 39)
    refine m_grow (L := L) (cb := cb) hS (by omega) (fun k hk4 => by rw [o85]; exact (sh_say hI hk4).1) t1 ⟨by rw [o48]; exact t3.1, fun x hx => by rw [o75]; exact t3.2 x hx⟩ (fun r2 f2 g1 => ?_) (fun k2 i2 w2 r2 g1 g2 g3 g4 g5 g6 g7 => ?_) (fun k2 i2 w2 g1 g2 g3 g4 g5 g6 g7 g8 σ2 g9 g10 => ?_)
    · rw [tkV_fr o85 o86, h1] at g1
      exact absurd g1 (by simp)
    · have z1 : k = k2 := (nI_eq (by omega) (by omega)).mp (h2.symm.trans g2)
      have z2 : i' = i2 := (nI_eq (by omega) (by omega)).mp (h3.symm.trans g3)
      have z3 : w' = w2 := (nI_eq (by omega) (by omega)).mp (h4.symm.trans g4)
      subst z1 z2 z3
      rw [(eg _ _ _).1, h6] at g7
      exact absurd g7 (by simp)
    · have z1 : k = k2 := (nI_eq (by omega) (by omega)).mp (h2.symm.trans g2)
      have z2 : i' = i2 := (nI_eq (by omega) (by omega)).mp (h3.symm.trans g3)
      have z3 : w' = w2 := (nI_eq (by omega) (by omega)).mp (h4.symm.trans g4)
      subst z1 z2 z3
      rw [(eg k i' w').2] at g8 g9 ⊢
      have all : ∀ a j, ¬ (a = 31 ∨ a = 32 ∨ a = 30 ∧ j = 4) → ¬ (a = 75 ∨ a = 48 ∧ j = 36) → s2 σ2 48 0 0 a j = s2 (s2 sg 0 14 0) 48 0 0 a j := by
        intro a j p1 p2
        by_cases p3 : a = 48 ∧ j = 0
        · rw [s2_y p3, s2_y p3]
        · rw [s2_n (by omega), s2_n (by omega), g10 a j p2, h8 a j p1]
      have fr : Fr [9] (s2 (s2 sg 0 14 0) 48 0 0) (s2 σ2 48 0 0) := by
        intro a j p1 p2
        refine all a j (fun z => ?_) (fun z => ?_)
        · rcases z with rfl | rfl | ⟨rfl, rfl⟩
          · exact p1 (List.mem_singleton.mpr rfl)
          · exact p1 (List.mem_singleton.mpr rfl)
          · exact p1 (List.mem_singleton.mpr rfl)
        · rcases z with rfl | ⟨rfl, rfl⟩
          · exact p1 (List.mem_singleton.mpr rfl)
          · exact p1 (List.mem_singleton.mpr rfl)
      refine ⟨rfl, hk _ _ _ (hI0.fr2 (fun a j p => ?_)) (tp_to g8 ⟨?_, fun x hx => ?_, fun x hx hx0 => ?_⟩ ⟨?_, fun x hx => ?_⟩ ?_ (fun j hj => ?_)) (Fr.tr (Fr_f2.w (by decide)) (fr.w (by decide)))⟩
      · rcases p with p | p
        · exact fr a j (by rw [p]; decide) (by rw [p]; decide)
        · exact fr a j (by rw [p]; decide) (by rw [p]; decide)
      · rw [s2_n (by omega), g10 30 4 (by omega)]; exact h7.1
      · rw [s2_n (by omega), g10 31 x (by omega)]; exact h7.2.1 x hx
      · rw [s2_n (by omega), g10 32 _ (by omega)]; exact h7.2.2 x hx hx0
      · rw [s2_n (by omega)]; exact g9.1
      · rw [s2_n (by omega)]; exact g9.2 x hx
      · rw [all 30 5 (by omega) (by omega), all 48 39 (by omega) (by omega), s2_n (by omega), s2_n (by omega), s2_n (by omega), s2_n (by omega)]
        exact hb
      · rw [all 33 j (by omega) (by omega), all 76 j (by omega) (by omega), s2_n (by omega), s2_n (by omega), s2_n (by omega), s2_n (by omega)]
        exact ha j hj
end H37
