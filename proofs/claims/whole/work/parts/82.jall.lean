/-! part 82: the one invariant; each call of the law under it -/
section H82
variable {d n : Nat} {mu : aM} {ro : aR} {sg sg2 : aS}
def JJ (T Q F : Nat) (tb rb : Nat → Nat) (N1 N2 N3 N4 n : Nat) (mu : aM) (ro : aR) (sg : aS) : Prop := (Sh mu ro ∧ S_tk mu ro n T tb ∧ S_rw mu ro n Q rb ∧ S_ds T Q tb rb) ∧ (I_tk sg T tb ∧ I_rw sg Q rb ∧ I_fd sg F T) ∧ (I_nt sg ∧ I_wk sg N1 ∧ I_hr sg ∧ I_sk sg N2 ∧ I_tp sg N3 ∧ I_kp sg N4 ∧ I_sh sg ∧ I_tr sg) ∧ n = 89 + 3 * T + 2 * Q
def J9 (n : Nat) (mu : aM) (ro : aR) (sg : aS) : Prop := ∃ (T Q F : Nat) (tb rb : Nat → Nat) (N1 N2 N3 N4 : Nat), JJ T Q F tb rb N1 N2 N3 N4 n mu ro sg
theorem J9.le (h : J9 n mu ro sg) : n ≤ 129 := by
  obtain ⟨T, Q, F, tb, rb, N1, N2, N3, N4, -, ⟨iT, iR, -⟩, -, hn⟩ := h
  have := iT.2.1
  have := iR.2.1
  omega
theorem I_nt.fr {s s' : aS} (h : I_nt s) (hf : ∀ a k, reg a k = 1 → s' a k = s a k) : I_nt s' := by
  obtain ⟨R, P, D, dA, dB, S, h1, h2, h3⟩ := h
  have e : ∀ x, (x = 2 ∨ x = 3 ∨ x = 4 ∨ x = 5 ∨ x = 49 ∨ x = 50 ∨ x = 51 ∨ x = 52 ∨ x = 53) → s' x = s x := fun x hx => funext (fun k => hf x k (by rcases hx with rfl | rfl | rfl | rfl | rfl | rfl | rfl | rfl | rfl <;> rfl))
  refine ⟨R, P, D, dA, dB, S, h1, ?_, ?_⟩
  · unfold C_nt at *
    rw [e 2 (by decide), e 3 (by decide), e 4 (by decide), e 5 (by decide), hf 1 9 rfl, hf 1 10 rfl, hf 1 8 rfl]
    exact h2
  · unfold M_nt at *
    rw [e 49 (by decide), e 50 (by decide), e 51 (by decide), e 52 (by decide), e 53 (by decide), hf 48 4 rfl, hf 48 7 rfl]
    exact h3
theorem JJ.to {T Q F : Nat} {tb rb : Nat → Nat} {N1 N2 N3 N4 : Nat} {ms : List Nat} (h : JJ T Q F tb rb N1 N2 N3 N4 n mu ro sg) (hF : Fr ms sg sg2) (c1 : 1 ∉ ms ∨ I_nt sg2) (c2 : 2 ∉ ms ∨ ∃ N, I_wk sg2 N) (c3 : 3 ∉ ms ∨ ∃ F', I_tk sg2 T tb ∧ I_rw sg2 Q rb ∧ I_fd sg2 F' T) (c7 : 7 ∉ ms ∨ I_hr sg2) (c8 : 8 ∉ ms ∨ ∃ N, I_sk sg2 N) (c9 : 9 ∉ ms ∨ ∃ N, I_tp sg2 N) (c10 : 10 ∉ ms ∨ ∃ N, I_kp sg2 N) (c11 : (11 ∉ ms ∧ 13 ∉ ms) ∨ I_sh sg2) (c12 : 12 ∉ ms ∨ I_tr sg2) : J9 n mu ro sg2 := by
  obtain ⟨⟨hS, hT, hR, hDs⟩, ⟨iT, iR, iF⟩, ⟨i1, i2, i7, i8, i9, i10, i11, i12⟩, hn⟩ := h
  have d1 : I_nt sg2 := c1.elim (fun q => i1.fr (hF.to q (by decide))) id
  have d2 : ∃ N, I_wk sg2 N := c2.elim (fun q => ⟨N1, i2.fr (hF.to q (by decide))⟩) id
  have d3 : ∃ F', I_tk sg2 T tb ∧ I_rw sg2 Q rb ∧ I_fd sg2 F' T := c3.elim (fun q => ⟨F, iT.fr hT (hF.to q (by decide)), iR.fr hR (hF.to q (by decide)), iF.fr (hF.to q (by decide))⟩) id
  have d7 : I_hr sg2 := c7.elim (fun q => i7.fr (hF.to q (by decide))) id
  have d8 : ∃ N, I_sk sg2 N := c8.elim (fun q => ⟨N2, i8.fr (hF.to q (by decide))⟩) id
  have d9 : ∃ N, I_tp sg2 N := c9.elim (fun q => ⟨N3, i9.fr (hF.to q (by decide))⟩) id
  have d10 : ∃ N, I_kp sg2 N := c10.elim (fun q => ⟨N4, i10.fr (hF.to q (by decide))⟩) id
  have d11 : I_sh sg2 := c11.elim (fun q => i11.fr2 (fun a k z => z.elim (fun z => hF.to q.1 (by decide) a k z) (fun z => hF.to q.2 (by decide) a k z))) id
  have d12 : I_tr sg2 := c12.elim (fun q => i12.fr (hF.to q (by decide))) id
  obtain ⟨M1, d2⟩ := d2
  obtain ⟨F', d3, d4, d5⟩ := d3
  obtain ⟨M2, d8⟩ := d8
  obtain ⟨M3, d9⟩ := d9
  obtain ⟨M4, d10⟩ := d10
  exact ⟨T, Q, F', tb, rb, M1, M2, M3, M4, ⟨hS, hT, hR, hDs⟩, ⟨d3, d4, d5⟩, ⟨d1, d2, d7, d8, d9, d10, d11, d12⟩, hn⟩
theorem FdF.fr (h : FdF sg sg2) : Fr [3] sg sg2 := fun a k q1 _ => h a k (fun z => q1 (by
  have : reg a k = 3 := by
    rcases z with z | z | z
    · rcases (show a = 15 ∨ a = 16 ∨ a = 17 ∨ a = 18 ∨ a = 19 ∨ a = 20 by omega) with rfl | rfl | rfl | rfl | rfl | rfl <;> rfl
    · rcases (show a = 65 ∨ a = 66 ∨ a = 67 ∨ a = 68 by omega) with rfl | rfl | rfl | rfl <;> rfl
    · obtain ⟨rfl, rfl⟩ := z; rfl
  rw [this]; decide))

theorem j_count {m h w : Int32} (hJ : J9 n mu ro sg) (hd : 18 ≤ d) : aCall d 112 [.ref 0, .int m, .int h, .int w] n mu ro sg (fun r1 sg1 => aCall d 201 [.ref 48, .int m, .int h, .int w] n mu ro sg1 (fun r2 sg2 => r1 = r2 ∧ J9 n mu ro sg2)) := by
  obtain ⟨T, Q, F, tb, rb, N1, N2, N3, N4, hh⟩ := id hJ
  obtain ⟨⟨hS, hT, hR, hDs⟩, ⟨iT, iR, iF⟩, ⟨i1, i2, i7, i8, i9, i10, i11, i12⟩, hn⟩ := id hh
  exact b_count (K := fun _ s => J9 n mu ro s) hS (by omega) i7 (fun _ _ a f => (hh.to f (Or.inl (by decide)) (Or.inl (by decide)) (Or.inl (by decide)) (Or.inr a) (Or.inl (by decide)) (Or.inl (by decide)) (Or.inl (by decide)) (Or.inl ⟨by decide, by decide⟩) (Or.inl (by decide))))
theorem j_group {m g : Int32} (hJ : J9 n mu ro sg) (hd : 18 ≤ d) : aCall d 114 [.ref 0, .int m, .int g] n mu ro sg (fun r1 sg1 => aCall d 204 [.ref 48, .int m, .int g] n mu ro sg1 (fun r2 sg2 => r1 = r2 ∧ J9 n mu ro sg2)) := by
  obtain ⟨T, Q, F, tb, rb, N1, N2, N3, N4, hh⟩ := id hJ
  obtain ⟨⟨hS, hT, hR, hDs⟩, ⟨iT, iR, iF⟩, ⟨i1, i2, i7, i8, i9, i10, i11, i12⟩, hn⟩ := id hh
  exact b_group (K := fun _ s => J9 n mu ro s) hS (by omega) i7 (fun _ _ a f => (hh.to f (Or.inl (by decide)) (Or.inl (by decide)) (Or.inl (by decide)) (Or.inr a) (Or.inl (by decide)) (Or.inl (by decide)) (Or.inl (by decide)) (Or.inl ⟨by decide, by decide⟩) (Or.inl (by decide))))
theorem j_may {k m t : Int32} (hJ : J9 n mu ro sg) (hd : 18 ≤ d) : aCall d 130 [.ref 0, .int k, .int m, .int t] n mu ro sg (fun r1 sg1 => aCall d 233 [.ref 48, .int k, .int m, .int t] n mu ro sg1 (fun r2 sg2 => r1 = r2 ∧ J9 n mu ro sg2)) := by
  obtain ⟨T, Q, F, tb, rb, N1, N2, N3, N4, hh⟩ := id hJ
  obtain ⟨⟨hS, hT, hR, hDs⟩, ⟨iT, iR, iF⟩, ⟨i1, i2, i7, i8, i9, i10, i11, i12⟩, hn⟩ := id hh
  exact b_may (K := fun _ s => J9 n mu ro s) hS (by omega) i10 (fun _ _ a f => (hh.to f (Or.inl (by decide)) (Or.inl (by decide)) (Or.inl (by decide)) (Or.inl (by decide)) (Or.inl (by decide)) (Or.inl (by decide)) (Or.inr ⟨_, a⟩) (Or.inl ⟨by decide, by decide⟩) (Or.inl (by decide))))
theorem j_trace  (hJ : J9 n mu ro sg) (hd : 18 ≤ d) : aCall d 148 [.ref 0] n mu ro sg (fun r1 sg1 => aCall d 248 [.ref 48] n mu ro sg1 (fun r2 sg2 => r1 = r2 ∧ J9 n mu ro sg2)) := by
  obtain ⟨T, Q, F, tb, rb, N1, N2, N3, N4, hh⟩ := id hJ
  obtain ⟨⟨hS, hT, hR, hDs⟩, ⟨iT, iR, iF⟩, ⟨i1, i2, i7, i8, i9, i10, i11, i12⟩, hn⟩ := id hh
  exact b_trace (K := fun _ s => J9 n mu ro s) hS i12 (fun _ => hJ)
theorem j_fault  (hJ : J9 n mu ro sg) (hd : 18 ≤ d) : aCall d 149 [.ref 0] n mu ro sg (fun r1 sg1 => aCall d 249 [.ref 48] n mu ro sg1 (fun r2 sg2 => r1 = r2 ∧ J9 n mu ro sg2)) := by
  obtain ⟨T, Q, F, tb, rb, N1, N2, N3, N4, hh⟩ := id hJ
  obtain ⟨⟨hS, hT, hR, hDs⟩, ⟨iT, iR, iF⟩, ⟨i1, i2, i7, i8, i9, i10, i11, i12⟩, hn⟩ := id hh
  exact b_fault (K := fun _ s => J9 n mu ro s) hS i11.1 (fun _ => hJ)
theorem j_answer {x a : Int32} (hJ : J9 n mu ro sg) (hd : 18 ≤ d) : aCall d 123 [.ref 0, .int x, .int a] n mu ro sg (fun r1 sg1 => aCall d 220 [.ref 48, .int x, .int a] n mu ro sg1 (fun r2 sg2 => r1 = r2 ∧ J9 n mu ro sg2)) := by
  obtain ⟨T, Q, F, tb, rb, N1, N2, N3, N4, hh⟩ := id hJ
  obtain ⟨⟨hS, hT, hR, hDs⟩, ⟨iT, iR, iF⟩, ⟨i1, i2, i7, i8, i9, i10, i11, i12⟩, hn⟩ := id hh
  exact b_answer (K := fun _ s => J9 n mu ro s) hS (by omega) i9 (fun _ _ a f => (hh.to f (Or.inl (by decide)) (Or.inl (by decide)) (Or.inl (by decide)) (Or.inl (by decide)) (Or.inl (by decide)) (Or.inr ⟨_, a⟩) (Or.inl (by decide)) (Or.inl ⟨by decide, by decide⟩) (Or.inl (by decide))))
theorem j_bar {a b : Int32} {p : Prop} [Decidable p] (hJ : J9 n mu ro sg) (hd : 18 ≤ d) : aCall d 120 [.ref 0, .int a, .int b, .int (if p then 1 else 0)] n mu ro sg (fun r1 sg1 => aCall d 215 [.ref 48, .int a, .int b, .int (if p then 1 else 0)] n mu ro sg1 (fun r2 sg2 => r1 = r2 ∧ J9 n mu ro sg2)) := by
  obtain ⟨T, Q, F, tb, rb, N1, N2, N3, N4, hh⟩ := id hJ
  obtain ⟨⟨hS, hT, hR, hDs⟩, ⟨iT, iR, iF⟩, ⟨i1, i2, i7, i8, i9, i10, i11, i12⟩, hn⟩ := id hh
  exact b_bar (K := fun _ s => J9 n mu ro s) hS (by omega) i9 (fun _ _ a f => (hh.to f (Or.inl (by decide)) (Or.inl (by decide)) (Or.inl (by decide)) (Or.inl (by decide)) (Or.inl (by decide)) (Or.inr ⟨_, a⟩) (Or.inl (by decide)) (Or.inl ⟨by decide, by decide⟩) (Or.inl (by decide))))
theorem j_next {x g : Int32} (hJ : J9 n mu ro sg) (hd : 18 ≤ d) : aCall d 124 [.ref 0, .int x, .int g] n mu ro sg (fun r1 sg1 => aCall d 221 [.ref 48, .int x, .int g] n mu ro sg1 (fun r2 sg2 => r1 = r2 ∧ J9 n mu ro sg2)) := by
  obtain ⟨T, Q, F, tb, rb, N1, N2, N3, N4, hh⟩ := id hJ
  obtain ⟨⟨hS, hT, hR, hDs⟩, ⟨iT, iR, iF⟩, ⟨i1, i2, i7, i8, i9, i10, i11, i12⟩, hn⟩ := id hh
  exact b_next (K := fun _ s => J9 n mu ro s) hS (by omega) i9 (fun _ => hJ)
theorem j_work {a b w : Int32} (hJ : J9 n mu ro sg) (hd : 18 ≤ d) : aCall d 126 [.ref 0, .int a, .int b, .int w] n mu ro sg (fun r1 sg1 => aCall d 223 [.ref 48, .int a, .int b, .int w] n mu ro sg1 (fun r2 sg2 => r1 = r2 ∧ J9 n mu ro sg2)) := by
  obtain ⟨T, Q, F, tb, rb, N1, N2, N3, N4, hh⟩ := id hJ
  obtain ⟨⟨hS, hT, hR, hDs⟩, ⟨iT, iR, iF⟩, ⟨i1, i2, i7, i8, i9, i10, i11, i12⟩, hn⟩ := id hh
  exact b_work (K := fun _ s => J9 n mu ro s) hS (by omega) i2 (fun _ _ _ a f => (hh.to f (Or.inl (by decide)) (Or.inr ⟨_, a⟩) (Or.inl (by decide)) (Or.inl (by decide)) (Or.inl (by decide)) (Or.inl (by decide)) (Or.inl (by decide)) (Or.inl ⟨by decide, by decide⟩) (Or.inl (by decide))))
theorem j_put {x w : Int32} (hJ : J9 n mu ro sg) (hd : 18 ≤ d) : aCall d 116 [.ref 0, .int x, .int w] n mu ro sg (fun r1 sg1 => aCall d 210 [.ref 48, .int x, .int w] n mu ro sg1 (fun r2 sg2 => r1 = r2 ∧ J9 n mu ro sg2)) := by
  obtain ⟨T, Q, F, tb, rb, N1, N2, N3, N4, hh⟩ := id hJ
  obtain ⟨⟨hS, hT, hR, hDs⟩, ⟨iT, iR, iF⟩, ⟨i1, i2, i7, i8, i9, i10, i11, i12⟩, hn⟩ := id hh
  exact b_put (K := fun _ s => J9 n mu ro s) hS (by omega) i8 (fun _ _ _ a f => (hh.to f (Or.inl (by decide)) (Or.inl (by decide)) (Or.inl (by decide)) (Or.inl (by decide)) (Or.inr ⟨_, a⟩) (Or.inl (by decide)) (Or.inl (by decide)) (Or.inl ⟨by decide, by decide⟩) (Or.inl (by decide))))
theorem j_told {x w : Int32} (hJ : J9 n mu ro sg) (hd : 18 ≤ d) : aCall d 117 [.ref 0, .int x, .int w] n mu ro sg (fun r1 sg1 => aCall d 211 [.ref 48, .int x, .int w] n mu ro sg1 (fun r2 sg2 => r1 = r2 ∧ J9 n mu ro sg2)) := by
  obtain ⟨T, Q, F, tb, rb, N1, N2, N3, N4, hh⟩ := id hJ
  obtain ⟨⟨hS, hT, hR, hDs⟩, ⟨iT, iR, iF⟩, ⟨i1, i2, i7, i8, i9, i10, i11, i12⟩, hn⟩ := id hh
  exact b_told (K := fun _ s => J9 n mu ro s) hS (by omega) i8 (fun _ => hJ)
theorem j_miss  (hJ : J9 n mu ro sg) (hd : 18 ≤ d) : aCall d 118 [.ref 0] n mu ro sg (fun r1 sg1 => aCall d 212 [.ref 48] n mu ro sg1 (fun r2 sg2 => r1 = r2 ∧ J9 n mu ro sg2)) := by
  obtain ⟨T, Q, F, tb, rb, N1, N2, N3, N4, hh⟩ := id hJ
  obtain ⟨⟨hS, hT, hR, hDs⟩, ⟨iT, iR, iF⟩, ⟨i1, i2, i7, i8, i9, i10, i11, i12⟩, hn⟩ := id hh
  exact b_miss (K := fun _ s => J9 n mu ro s) hS (by omega) i8 (fun _ => hJ)
theorem j_lose {x : Int32} (hJ : J9 n mu ro sg) (hd : 18 ≤ d) : aCall d 137 [.ref 0, .int x] n mu ro sg (fun r1 sg1 => aCall d 238 [.ref 48, .int x] n mu ro sg1 (fun r2 sg2 => r1 = r2 ∧ J9 n mu ro sg2)) := by
  obtain ⟨T, Q, F, tb, rb, N1, N2, N3, N4, hh⟩ := id hJ
  obtain ⟨⟨hS, hT, hR, hDs⟩, ⟨iT, iR, iF⟩, ⟨i1, i2, i7, i8, i9, i10, i11, i12⟩, hn⟩ := id hh
  exact b_lose (K := fun _ s => J9 n mu ro s) hS (by omega) i11 (fun _ _ a f => (hh.to f (Or.inl (by decide)) (Or.inl (by decide)) (Or.inl (by decide)) (Or.inl (by decide)) (Or.inl (by decide)) (Or.inl (by decide)) (Or.inl (by decide)) (Or.inr a) (Or.inl (by decide))))
theorem j_sheet {x l w : Int32} (hJ : J9 n mu ro sg) (hd : 18 ≤ d) : aCall d 136 [.ref 0, .int x, .int l, .int w] n mu ro sg (fun r1 sg1 => aCall d 237 [.ref 48, .int x, .int l, .int w] n mu ro sg1 (fun r2 sg2 => r1 = r2 ∧ J9 n mu ro sg2)) := by
  obtain ⟨T, Q, F, tb, rb, N1, N2, N3, N4, hh⟩ := id hJ
  obtain ⟨⟨hS, hT, hR, hDs⟩, ⟨iT, iR, iF⟩, ⟨i1, i2, i7, i8, i9, i10, i11, i12⟩, hn⟩ := id hh
  exact b_sheet (K := fun _ s => J9 n mu ro s) hS (by omega) i11 (fun _ _ a f => (hh.to f (Or.inl (by decide)) (Or.inl (by decide)) (Or.inl (by decide)) (Or.inl (by decide)) (Or.inl (by decide)) (Or.inl (by decide)) (Or.inl (by decide)) (Or.inr a) (Or.inl (by decide))))
theorem j_set {x i v : Int32} (hJ : J9 n mu ro sg) (hd : 18 ≤ d) : aCall d 138 [.ref 0, .int x, .int i, .int v] n mu ro sg (fun r1 sg1 => aCall d 240 [.ref 48, .int x, .int i, .int v] n mu ro sg1 (fun r2 sg2 => r1 = r2 ∧ J9 n mu ro sg2)) := by
  obtain ⟨T, Q, F, tb, rb, N1, N2, N3, N4, hh⟩ := id hJ
  obtain ⟨⟨hS, hT, hR, hDs⟩, ⟨iT, iR, iF⟩, ⟨i1, i2, i7, i8, i9, i10, i11, i12⟩, hn⟩ := id hh
  exact b_set (K := fun _ s => J9 n mu ro s) hS (by omega) i11 (fun _ _ a f => (hh.to f (Or.inl (by decide)) (Or.inl (by decide)) (Or.inl (by decide)) (Or.inl (by decide)) (Or.inl (by decide)) (Or.inl (by decide)) (Or.inl (by decide)) (Or.inr a) (Or.inl (by decide))))
theorem j_cell {x i l : Int32} (hJ : J9 n mu ro sg) (hd : 18 ≤ d) : aCall d 139 [.ref 0, .int x, .int i, .int l] n mu ro sg (fun r1 sg1 => aCall d 241 [.ref 48, .int x, .int i, .int l] n mu ro sg1 (fun r2 sg2 => r1 = r2 ∧ J9 n mu ro sg2)) := by
  obtain ⟨T, Q, F, tb, rb, N1, N2, N3, N4, hh⟩ := id hJ
  obtain ⟨⟨hS, hT, hR, hDs⟩, ⟨iT, iR, iF⟩, ⟨i1, i2, i7, i8, i9, i10, i11, i12⟩, hn⟩ := id hh
  exact b_cell (K := fun _ s => J9 n mu ro s) hS (by omega) i11 (fun _ _ a f => (hh.to f (Or.inl (by decide)) (Or.inl (by decide)) (Or.inl (by decide)) (Or.inl (by decide)) (Or.inl (by decide)) (Or.inl (by decide)) (Or.inl (by decide)) (Or.inr a) (Or.inl (by decide))))
theorem j_copy {x y i j w : Int32} (hJ : J9 n mu ro sg) (hd : 18 ≤ d) : aCall d 140 [.ref 0, .int x, .int i, .int y, .int j, .int w] n mu ro sg (fun r1 sg1 => aCall d 243 [.ref 48, .int x, .int i, .int y, .int j, .int w] n mu ro sg1 (fun r2 sg2 => r1 = r2 ∧ J9 n mu ro sg2)) := by
  obtain ⟨T, Q, F, tb, rb, N1, N2, N3, N4, hh⟩ := id hJ
  obtain ⟨⟨hS, hT, hR, hDs⟩, ⟨iT, iR, iF⟩, ⟨i1, i2, i7, i8, i9, i10, i11, i12⟩, hn⟩ := id hh
  exact b_copy (K := fun _ s => J9 n mu ro s) hS (by omega) i11 (fun _ _ a f => (hh.to f (Or.inl (by decide)) (Or.inl (by decide)) (Or.inl (by decide)) (Or.inl (by decide)) (Or.inl (by decide)) (Or.inl (by decide)) (Or.inl (by decide)) (Or.inr a) (Or.inl (by decide))))
theorem j_likes {m h : Int32} (hJ : J9 n mu ro sg) (hd : 18 ≤ d) : aCall d 115 [.ref 0, .int m, .int h] n mu ro sg (fun r1 sg1 => aCall d 205 [.ref 48, .int m, .int h] n mu ro sg1 (fun r2 sg2 => r1 = r2 ∧ J9 n mu ro sg2)) := by
  obtain ⟨T, Q, F, tb, rb, N1, N2, N3, N4, hh⟩ := id hJ
  obtain ⟨⟨hS, hT, hR, hDs⟩, ⟨iT, iR, iF⟩, ⟨i1, i2, i7, i8, i9, i10, i11, i12⟩, hn⟩ := id hh
  exact b_likes (K := fun _ s => J9 n mu ro s) hS (by omega) i7 (fun _ => hJ)
theorem j_gone {x l i w : Int32} (hJ : J9 n mu ro sg) (hd : 18 ≤ d) : aCall d 122 [.ref 0, .int x, .int l, .int i, .int w] n mu ro sg (fun r1 sg1 => aCall d 218 [.ref 48, .int x, .int l, .int i, .int w] n mu ro sg1 (fun r2 sg2 => r1 = r2 ∧ J9 n mu ro sg2)) := by
  obtain ⟨T, Q, F, tb, rb, N1, N2, N3, N4, hh⟩ := id hJ
  obtain ⟨⟨hS, hT, hR, hDs⟩, ⟨iT, iR, iF⟩, ⟨i1, i2, i7, i8, i9, i10, i11, i12⟩, hn⟩ := id hh
  exact b_gone (K := fun _ s => J9 n mu ro s) hS (by omega) i11 i9 (fun _ _ a f => (hh.to f (Or.inl (by decide)) (Or.inl (by decide)) (Or.inl (by decide)) (Or.inl (by decide)) (Or.inl (by decide)) (Or.inl (by decide)) (Or.inl (by decide)) (Or.inr a) (Or.inl (by decide))))
theorem j_odds {m h w : Int32} (hJ : J9 n mu ro sg) (hd : 18 ≤ d) : aCall d 113 [.ref 0, .int m, .int h, .int w] n mu ro sg (fun r1 sg1 => aCall d 203 [.ref 48, .int m, .int h, .int w] n mu ro sg1 (fun r2 sg2 => r1 = r2 ∧ J9 n mu ro sg2)) := by
  obtain ⟨T, Q, F, tb, rb, N1, N2, N3, N4, hh⟩ := id hJ
  obtain ⟨⟨hS, hT, hR, hDs⟩, ⟨iT, iR, iF⟩, ⟨i1, i2, i7, i8, i9, i10, i11, i12⟩, hn⟩ := id hh
  exact b_odds (K := fun _ s => J9 n mu ro s) hS (by omega) i7 (fun _ => hJ)
theorem j_grow {x l i w : Int32} (hJ : J9 n mu ro sg) (hd : 18 ≤ d) : aCall d 121 [.ref 0, .int x, .int l, .int i, .int w] n mu ro sg (fun r1 sg1 => aCall d 217 [.ref 48, .int x, .int l, .int i, .int w] n mu ro sg1 (fun r2 sg2 => r1 = r2 ∧ J9 n mu ro sg2)) := by
  obtain ⟨T, Q, F, tb, rb, N1, N2, N3, N4, hh⟩ := id hJ
  obtain ⟨⟨hS, hT, hR, hDs⟩, ⟨iT, iR, iF⟩, ⟨i1, i2, i7, i8, i9, i10, i11, i12⟩, hn⟩ := id hh
  exact b_grow (K := fun _ s => J9 n mu ro s) hS (by omega) i11 i9 (fun _ _ _ a b f => (hh.to f (Or.inl (by decide)) (Or.inl (by decide)) (Or.inl (by decide)) (Or.inl (by decide)) (Or.inl (by decide)) (Or.inr ⟨_, b⟩) (Or.inl (by decide)) (Or.inr a) (Or.inl (by decide))))
theorem j_rows {x : Int32} (hJ : J9 n mu ro sg) (hd : 18 ≤ d) : aCall d 125 [.ref 0, .int x] n mu ro sg (fun r1 sg1 => aCall d 222 [.ref 48, .int x] n mu ro sg1 (fun r2 sg2 => r1 = r2 ∧ J9 n mu ro sg2)) := by
  obtain ⟨T, Q, F, tb, rb, N1, N2, N3, N4, hh⟩ := id hJ
  obtain ⟨⟨hS, hT, hR, hDs⟩, ⟨iT, iR, iF⟩, ⟨i1, i2, i7, i8, i9, i10, i11, i12⟩, hn⟩ := id hh
  exact b_rows (K := fun _ s => J9 n mu ro s) hS (by omega) i9 (fun _ _ f => (hh.to f (Or.inl (by decide)) (Or.inl (by decide)) (Or.inl (by decide)) (Or.inl (by decide)) (Or.inl (by decide)) (Or.inl (by decide)) (Or.inl (by decide)) (Or.inl ⟨by decide, by decide⟩) (Or.inl (by decide))))
theorem j_road {a b : Int32} {p : Prop} [Decidable p] (hJ : J9 n mu ro sg) (hd : 18 ≤ d) : aCall d 94 [.ref 0, .int a, .int b, .int (if p then 1 else 0)] n mu ro sg (fun r1 sg1 => aCall d 166 [.ref 48, .int a, .int b, .int (if p then 1 else 0)] n mu ro sg1 (fun r2 sg2 => r1 = r2 ∧ J9 n mu ro sg2)) := by
  obtain ⟨T, Q, F, tb, rb, N1, N2, N3, N4, hh⟩ := id hJ
  obtain ⟨⟨hS, hT, hR, hDs⟩, ⟨iT, iR, iF⟩, ⟨i1, i2, i7, i8, i9, i10, i11, i12⟩, hn⟩ := id hh
  exact b_road (K := fun _ s => J9 n mu ro s) hS (by omega) i1 (fun _ _ a f => (hh.to f (Or.inr a) (Or.inl (by decide)) (Or.inl (by decide)) (Or.inl (by decide)) (Or.inl (by decide)) (Or.inl (by decide)) (Or.inl (by decide)) (Or.inl ⟨by decide, by decide⟩) (Or.inl (by decide))))
theorem j_post {a b : Int32} {p : Prop} [Decidable p] (hJ : J9 n mu ro sg) (hd : 18 ≤ d) : aCall d 95 [.ref 0, .int a, .int b, .int (if p then 1 else 0)] n mu ro sg (fun r1 sg1 => aCall d 168 [.ref 48, .int a, .int b, .int (if p then 1 else 0)] n mu ro sg1 (fun r2 sg2 => r1 = r2 ∧ J9 n mu ro sg2)) := by
  obtain ⟨T, Q, F, tb, rb, N1, N2, N3, N4, hh⟩ := id hJ
  obtain ⟨⟨hS, hT, hR, hDs⟩, ⟨iT, iR, iF⟩, ⟨i1, i2, i7, i8, i9, i10, i11, i12⟩, hn⟩ := id hh
  exact b_post (K := fun _ s => J9 n mu ro s) hS (by omega) i1 (fun _ _ a f => (hh.to f (Or.inr a) (Or.inl (by decide)) (Or.inl (by decide)) (Or.inl (by decide)) (Or.inl (by decide)) (Or.inl (by decide)) (Or.inl (by decide)) (Or.inl ⟨by decide, by decide⟩) (Or.inl (by decide))))
theorem j_door {a b : Int32} (hJ : J9 n mu ro sg) (hd : 18 ≤ d) : aCall d 96 [.ref 0, .int a, .int b] n mu ro sg (fun r1 sg1 => aCall d 169 [.ref 48, .int a, .int b] n mu ro sg1 (fun r2 sg2 => r1 = r2 ∧ J9 n mu ro sg2)) := by
  obtain ⟨T, Q, F, tb, rb, N1, N2, N3, N4, hh⟩ := id hJ
  obtain ⟨⟨hS, hT, hR, hDs⟩, ⟨iT, iR, iF⟩, ⟨i1, i2, i7, i8, i9, i10, i11, i12⟩, hn⟩ := id hh
  exact b_door (K := fun _ s => J9 n mu ro s) hS (by omega) i1 (fun _ _ a f => (hh.to f (Or.inr a) (Or.inl (by decide)) (Or.inl (by decide)) (Or.inl (by decide)) (Or.inl (by decide)) (Or.inl (by decide)) (Or.inl (by decide)) (Or.inl ⟨by decide, by decide⟩) (Or.inl (by decide))))
theorem j_shut {x : Int32} {p : Prop} [Decidable p] (hJ : J9 n mu ro sg) (hd : 18 ≤ d) : aCall d 97 [.ref 0, .int x, .int (if p then 1 else 0)] n mu ro sg (fun r1 sg1 => aCall d 170 [.ref 48, .int x, .int (if p then 1 else 0)] n mu ro sg1 (fun r2 sg2 => r1 = r2 ∧ J9 n mu ro sg2)) := by
  obtain ⟨T, Q, F, tb, rb, N1, N2, N3, N4, hh⟩ := id hJ
  obtain ⟨⟨hS, hT, hR, hDs⟩, ⟨iT, iR, iF⟩, ⟨i1, i2, i7, i8, i9, i10, i11, i12⟩, hn⟩ := id hh
  exact b_shut (K := fun _ s => J9 n mu ro s) hS (by omega) i1 (fun _ _ a f => (hh.to f (Or.inr a) (Or.inl (by decide)) (Or.inl (by decide)) (Or.inl (by decide)) (Or.inl (by decide)) (Or.inl (by decide)) (Or.inl (by decide)) (Or.inl ⟨by decide, by decide⟩) (Or.inl (by decide))))
theorem j_way {a b k : Int32} (hJ : J9 n mu ro sg) (hd : 18 ≤ d) : aCall d 98 [.ref 0, .int a, .int b, .int k] n mu ro sg (fun r1 sg1 => aCall d 174 [.ref 48, .int a, .int b, .int k] n mu ro sg1 (fun r2 sg2 => r1 = r2 ∧ J9 n mu ro sg2)) := by
  obtain ⟨T, Q, F, tb, rb, N1, N2, N3, N4, hh⟩ := id hJ
  obtain ⟨⟨hS, hT, hR, hDs⟩, ⟨iT, iR, iF⟩, ⟨i1, i2, i7, i8, i9, i10, i11, i12⟩, hn⟩ := id hh
  exact b_way (K := fun _ s => J9 n mu ro s) hS (by omega) i1 (fun _ _ f => (hh.to f (Or.inl (by decide)) (Or.inl (by decide)) (Or.inl (by decide)) (Or.inl (by decide)) (Or.inl (by decide)) (Or.inl (by decide)) (Or.inl (by decide)) (Or.inl ⟨by decide, by decide⟩) (Or.inl (by decide))))
theorem j_blind {a b : Int32} (hJ : J9 n mu ro sg) (hd : 18 ≤ d) : aCall d 99 [.ref 0, .int a, .int b] n mu ro sg (fun r1 sg1 => aCall d 175 [.ref 48, .int a, .int b] n mu ro sg1 (fun r2 sg2 => r1 = r2 ∧ J9 n mu ro sg2)) := by
  obtain ⟨T, Q, F, tb, rb, N1, N2, N3, N4, hh⟩ := id hJ
  obtain ⟨⟨hS, hT, hR, hDs⟩, ⟨iT, iR, iF⟩, ⟨i1, i2, i7, i8, i9, i10, i11, i12⟩, hn⟩ := id hh
  exact b_blind (K := fun _ s => J9 n mu ro s) hS (by omega) i1 (fun _ _ f => (hh.to f (Or.inl (by decide)) (Or.inl (by decide)) (Or.inl (by decide)) (Or.inl (by decide)) (Or.inl (by decide)) (Or.inl (by decide)) (Or.inl (by decide)) (Or.inl ⟨by decide, by decide⟩) (Or.inl (by decide))))
theorem j_still {x y : Int32} (hJ : J9 n mu ro sg) (hd : 18 ≤ d) : aCall d 127 [.ref 0, .int x, .int y] n mu ro sg (fun r1 sg1 => aCall d 227 [.ref 48, .int x, .int y] n mu ro sg1 (fun r2 sg2 => r1 = r2 ∧ J9 n mu ro sg2)) := by
  obtain ⟨T, Q, F, tb, rb, N1, N2, N3, N4, hh⟩ := id hJ
  obtain ⟨⟨hS, hT, hR, hDs⟩, ⟨iT, iR, iF⟩, ⟨i1, i2, i7, i8, i9, i10, i11, i12⟩, hn⟩ := id hh
  exact b_still (K := fun _ s => J9 n mu ro s) hS (by omega) i1 i2 (fun _ _ f => (hh.to f (Or.inl (by decide)) (Or.inl (by decide)) (Or.inl (by decide)) (Or.inl (by decide)) (Or.inl (by decide)) (Or.inl (by decide)) (Or.inl (by decide)) (Or.inl ⟨by decide, by decide⟩) (Or.inl (by decide))))
theorem j_parted {a b x : Int32} (hJ : J9 n mu ro sg) (hd : 18 ≤ d) : aCall d 128 [.ref 0, .int a, .int b, .int x] n mu ro sg (fun r1 sg1 => aCall d 230 [.ref 48, .int a, .int b, .int x] n mu ro sg1 (fun r2 sg2 => r1 = r2 ∧ J9 n mu ro sg2)) := by
  obtain ⟨T, Q, F, tb, rb, N1, N2, N3, N4, hh⟩ := id hJ
  obtain ⟨⟨hS, hT, hR, hDs⟩, ⟨iT, iR, iF⟩, ⟨i1, i2, i7, i8, i9, i10, i11, i12⟩, hn⟩ := id hh
  exact b_parted (K := fun _ s => J9 n mu ro s) hS (by omega) i1 (fun _ _ f => (hh.to f (Or.inl (by decide)) (Or.inl (by decide)) (Or.inl (by decide)) (Or.inl (by decide)) (Or.inl (by decide)) (Or.inl (by decide)) (Or.inl (by decide)) (Or.inl ⟨by decide, by decide⟩) (Or.inl (by decide))))
theorem j_least {a b y : Int32} (hJ : J9 n mu ro sg) (hd : 18 ≤ d) : aCall d 129 [.ref 0, .int a, .int b, .int y] n mu ro sg (fun r1 sg1 => aCall d 231 [.ref 48, .int a, .int b, .int y] n mu ro sg1 (fun r2 sg2 => r1 = r2 ∧ J9 n mu ro sg2)) := by
  obtain ⟨T, Q, F, tb, rb, N1, N2, N3, N4, hh⟩ := id hJ
  obtain ⟨⟨hS, hT, hR, hDs⟩, ⟨iT, iR, iF⟩, ⟨i1, i2, i7, i8, i9, i10, i11, i12⟩, hn⟩ := id hh
  exact b_least (K := fun _ s => J9 n mu ro s) hS (by omega) i1 i2 (fun _ _ f => (hh.to f (Or.inl (by decide)) (Or.inl (by decide)) (Or.inl (by decide)) (Or.inl (by decide)) (Or.inl (by decide)) (Or.inl (by decide)) (Or.inl (by decide)) (Or.inl ⟨by decide, by decide⟩) (Or.inl (by decide))))
theorem j_finding {x y : Int32} (hJ : J9 n mu ro sg) (hd : 18 ≤ d) : aCall d 108 [.ref 0, .int x, .int y] n mu ro sg (fun r1 sg1 => aCall d 193 [.ref 48, .int x, .int y] n mu ro sg1 (fun r2 sg2 => r1 = r2 ∧ J9 n mu ro sg2)) := by
  obtain ⟨T, Q, F, tb, rb, N1, N2, N3, N4, hh⟩ := id hJ
  obtain ⟨⟨hS, hT, hR, hDs⟩, ⟨iT, iR, iF⟩, ⟨i1, i2, i7, i8, i9, i10, i11, i12⟩, hn⟩ := id hh
  exact b_finding (K := fun _ s => J9 n mu ro s) hS (by omega) iF (fun _ => hJ)
theorem j_clear {x y : Int32} (hJ : J9 n mu ro sg) (hd : 18 ≤ d) : aCall d 109 [.ref 0, .int x, .int y] n mu ro sg (fun r1 sg1 => aCall d 194 [.ref 48, .int x, .int y] n mu ro sg1 (fun r2 sg2 => r1 = r2 ∧ J9 n mu ro sg2)) := by
  obtain ⟨T, Q, F, tb, rb, N1, N2, N3, N4, hh⟩ := id hJ
  obtain ⟨⟨hS, hT, hR, hDs⟩, ⟨iT, iR, iF⟩, ⟨i1, i2, i7, i8, i9, i10, i11, i12⟩, hn⟩ := id hh
  exact b_clear (K := fun _ s => J9 n mu ro s) hS (by omega) iF (fun _ _ a h => hh.to (FdF.fr (fun c k q => h c k (fun z => q (by subst z; exact Or.inl (by omega))) (fun z => q (by subst z; exact Or.inr (Or.inl (by omega)))))) (Or.inl (by decide)) (Or.inl (by decide)) (Or.inr ⟨_, iT.fd hT (fun c k q => h c k (fun z => q (by subst z; exact Or.inl (by omega))) (fun z => q (by subst z; exact Or.inr (Or.inl (by omega))))), iR.fd hR (fun c k q => h c k (fun z => q (by subst z; exact Or.inl (by omega))) (fun z => q (by subst z; exact Or.inr (Or.inl (by omega))))), a⟩) (Or.inl (by decide)) (Or.inl (by decide)) (Or.inl (by decide)) (Or.inl (by decide)) (Or.inl ⟨by decide, by decide⟩) (Or.inl (by decide)))
theorem j_about {x y : Int32} (hJ : J9 n mu ro sg) (hd : 18 ≤ d) : aCall d 102 [.ref 0, .int x, .int y] n mu ro sg (fun r1 sg1 => aCall d 183 [.ref 48, .int x, .int y] n mu ro sg1 (fun r2 sg2 => r1 = r2 ∧ J9 n mu ro sg2)) := by
  obtain ⟨T, Q, F, tb, rb, N1, N2, N3, N4, hh⟩ := id hJ
  obtain ⟨⟨hS, hT, hR, hDs⟩, ⟨iT, iR, iF⟩, ⟨i1, i2, i7, i8, i9, i10, i11, i12⟩, hn⟩ := id hh
  exact b_about (K := fun _ s => J9 n mu ro s) hS (by omega) hT iT (fun _ => hJ)
theorem j_at {x r p : Int32} (hJ : J9 n mu ro sg) (hd : 18 ≤ d) : aCall d 103 [.ref 0, .int x, .int r, .int p] n mu ro sg (fun r1 sg1 => aCall d 185 [.ref 48, .int x, .int r, .int p] n mu ro sg1 (fun r2 sg2 => r1 = r2 ∧ J9 n mu ro sg2)) := by
  obtain ⟨T, Q, F, tb, rb, N1, N2, N3, N4, hh⟩ := id hJ
  obtain ⟨⟨hS, hT, hR, hDs⟩, ⟨iT, iR, iF⟩, ⟨i1, i2, i7, i8, i9, i10, i11, i12⟩, hn⟩ := id hh
  exact b_at (K := fun _ s => J9 n mu ro s) hS (by omega) hT iT (fun _ => hJ)
theorem j_call {x : Int32} (hJ : J9 n mu ro sg) (hd : 18 ≤ d) : aCall d 146 [.ref 0, .int x] n mu ro sg (fun r1 sg1 => aCall d 246 [.ref 48, .int x] n mu ro sg1 (fun r2 sg2 => r1 = r2 ∧ J9 n mu ro sg2)) := by
  obtain ⟨T, Q, F, tb, rb, N1, N2, N3, N4, hh⟩ := id hJ
  obtain ⟨⟨hS, hT, hR, hDs⟩, ⟨iT, iR, iF⟩, ⟨i1, i2, i7, i8, i9, i10, i11, i12⟩, hn⟩ := id hh
  exact b_call (K := fun _ s => J9 n mu ro s) hS (by omega) hT iT i12 (fun _ _ a f => (hh.to f (Or.inl (by decide)) (Or.inl (by decide)) (Or.inl (by decide)) (Or.inl (by decide)) (Or.inl (by decide)) (Or.inl (by decide)) (Or.inl (by decide)) (Or.inl ⟨by decide, by decide⟩) (Or.inr a)))
theorem j_as {x y : Int32} (hJ : J9 n mu ro sg) (hd : 18 ≤ d) : aCall d 147 [.ref 0, .int x, .int y] n mu ro sg (fun r1 sg1 => aCall d 247 [.ref 48, .int x, .int y] n mu ro sg1 (fun r2 sg2 => r1 = r2 ∧ J9 n mu ro sg2)) := by
  obtain ⟨T, Q, F, tb, rb, N1, N2, N3, N4, hh⟩ := id hJ
  obtain ⟨⟨hS, hT, hR, hDs⟩, ⟨iT, iR, iF⟩, ⟨i1, i2, i7, i8, i9, i10, i11, i12⟩, hn⟩ := id hh
  exact b_as (K := fun _ s => J9 n mu ro s) hS (by omega) hT iT i11 (fun _ _ a f => (hh.to f (Or.inl (by decide)) (Or.inl (by decide)) (Or.inl (by decide)) (Or.inl (by decide)) (Or.inl (by decide)) (Or.inl (by decide)) (Or.inl (by decide)) (Or.inr a) (Or.inl (by decide))))
theorem j_tell {x : Int32} (hJ : J9 n mu ro sg) (hd : 18 ≤ d) : aCall d 141 [.ref 0, .int x] n mu ro sg (fun r1 sg1 => aCall d 245 [.ref 48, .int x] n mu ro sg1 (fun r2 sg2 => r1 = r2 ∧ J9 n mu ro sg2)) := by
  obtain ⟨T, Q, F, tb, rb, N1, N2, N3, N4, hh⟩ := id hJ
  obtain ⟨⟨hS, hT, hR, hDs⟩, ⟨iT, iR, iF⟩, ⟨i1, i2, i7, i8, i9, i10, i11, i12⟩, hn⟩ := id hh
  exact b_tell (K := fun _ s => J9 n mu ro s) hS (by omega) hT iT i12 (fun _ _ a f => (hh.to f (Or.inl (by decide)) (Or.inl (by decide)) (Or.inl (by decide)) (Or.inl (by decide)) (Or.inl (by decide)) (Or.inl (by decide)) (Or.inl (by decide)) (Or.inl ⟨by decide, by decide⟩) (Or.inr a)))
theorem j_looks {x y : Int32} (hJ : J9 n mu ro sg) (hd : 18 ≤ d) : aCall d 132 [.ref 0, .int x, .int y] n mu ro sg (fun r1 sg1 => aCall d 235 [.ref 48, .int x, .int y] n mu ro sg1 (fun r2 sg2 => r1 = r2 ∧ J9 n mu ro sg2)) := by
  obtain ⟨T, Q, F, tb, rb, N1, N2, N3, N4, hh⟩ := id hJ
  obtain ⟨⟨hS, hT, hR, hDs⟩, ⟨iT, iR, iF⟩, ⟨i1, i2, i7, i8, i9, i10, i11, i12⟩, hn⟩ := id hh
  exact b_looks (K := fun _ s => J9 n mu ro s) hS (by omega) i10 (fun _ => hJ)
theorem j_look {k x w : Int32} (hJ : J9 n mu ro sg) (hd : 18 ≤ d) : aCall d 131 [.ref 0, .int k, .int x, .int w] n mu ro sg (fun r1 sg1 => aCall d 234 [.ref 48, .int k, .int x, .int w] n mu ro sg1 (fun r2 sg2 => r1 = r2 ∧ J9 n mu ro sg2)) := by
  obtain ⟨T, Q, F, tb, rb, N1, N2, N3, N4, hh⟩ := id hJ
  obtain ⟨⟨hS, hT, hR, hDs⟩, ⟨iT, iR, iF⟩, ⟨i1, i2, i7, i8, i9, i10, i11, i12⟩, hn⟩ := id hh
  exact b_look (K := fun _ s => J9 n mu ro s) hS (by omega) hT iT i10 (fun _ _ _ a f => (hh.to f (Or.inl (by decide)) (Or.inl (by decide)) (Or.inl (by decide)) (Or.inl (by decide)) (Or.inl (by decide)) (Or.inl (by decide)) (Or.inr ⟨_, a⟩) (Or.inl ⟨by decide, by decide⟩) (Or.inl (by decide))))
theorem j_nothing {x w : Int32} (hJ : J9 n mu ro sg) (hd : 18 ≤ d) : aCall d 110 [.ref 0, .int x, .int w] n mu ro sg (fun r1 sg1 => aCall d 195 [.ref 48, .int x, .int w] n mu ro sg1 (fun r2 sg2 => r1 = r2 ∧ J9 n mu ro sg2)) := by
  obtain ⟨T, Q, F, tb, rb, N1, N2, N3, N4, hh⟩ := id hJ
  obtain ⟨⟨hS, hT, hR, hDs⟩, ⟨iT, iR, iF⟩, ⟨i1, i2, i7, i8, i9, i10, i11, i12⟩, hn⟩ := id hh
  exact b_nothing (K := fun _ s => J9 n mu ro s) hS (by omega) hR iR iF (fun _ => hJ)
theorem j_fits {x y v w : Int32} (hJ : J9 n mu ro sg) (hd : 18 ≤ d) : aCall d 105 [.ref 0, .int x, .int y, .int v, .int w] n mu ro sg (fun r1 sg1 => aCall d 190 [.ref 48, .int x, .int y, .int v, .int w] n mu ro sg1 (fun r2 sg2 => r1 = r2 ∧ J9 n mu ro sg2)) := by
  obtain ⟨T, Q, F, tb, rb, N1, N2, N3, N4, hh⟩ := id hJ
  obtain ⟨⟨hS, hT, hR, hDs⟩, ⟨iT, iR, iF⟩, ⟨i1, i2, i7, i8, i9, i10, i11, i12⟩, hn⟩ := id hh
  exact b_fits (K := fun _ s => J9 n mu ro s) hS (by omega) hT hR iT iR (fun _ => hJ)
theorem j_many {x : Int32} (hJ : J9 n mu ro sg) (hd : 18 ≤ d) : aCall d 150 [.ref 0, .int x] n mu ro sg (fun r1 sg1 => aCall d 250 [.ref 48, .int x] n mu ro sg1 (fun r2 sg2 => r1 = r2 ∧ J9 n mu ro sg2)) := by
  obtain ⟨T, Q, F, tb, rb, N1, N2, N3, N4, hh⟩ := id hJ
  obtain ⟨⟨hS, hT, hR, hDs⟩, ⟨iT, iR, iF⟩, ⟨i1, i2, i7, i8, i9, i10, i11, i12⟩, hn⟩ := id hh
  exact b_many (K := fun _ s => J9 n mu ro s) hS (by omega) i1 iT iR iF i9 i2 i10 (fun _ => hJ)
theorem j_scan {x : Int32} (hJ : J9 n mu ro sg) (hd : 18 ≤ d) : aCall d 106 [.ref 0, .int x] n mu ro sg (fun r1 sg1 => aCall d 192 [.ref 48, .int x] n mu ro sg1 (fun r2 sg2 => r1 = r2 ∧ J9 n mu ro sg2)) := by
  obtain ⟨T, Q, F, tb, rb, N1, N2, N3, N4, hh⟩ := id hJ
  obtain ⟨⟨hS, hT, hR, hDs⟩, ⟨iT, iR, iF⟩, ⟨i1, i2, i7, i8, i9, i10, i11, i12⟩, hn⟩ := id hh
  exact b_scan (K := fun _ s => J9 n mu ro s) hS (by omega) hT hR iT iR iF (fun _ _ _ a h => hh.to h.fr (Or.inl (by decide)) (Or.inl (by decide)) (Or.inr ⟨_, iT.fd hT h, iR.fd hR h, a⟩) (Or.inl (by decide)) (Or.inl (by decide)) (Or.inl (by decide)) (Or.inl (by decide)) (Or.inl ⟨by decide, by decide⟩) (Or.inl (by decide)))
theorem j_piece {x y z k l i w : Int32} (hJ : J9 n mu ro sg) (hd : 18 ≤ d) : aCall d 101 [.ref 0, .int x, .int y, .int z, .int k, .int l, .int i, .int w] n mu ro sg (fun r1 sg1 => aCall d 180 [.ref 48, .int x, .int y, .int z, .int k, .int l, .int i, .int w] n mu ro sg1 (fun r2 sg2 => r1 = r2 ∧ J9 n mu ro sg2)) := by
  obtain ⟨T, Q, F, tb, rb, N1, N2, N3, N4, hh⟩ := id hJ
  obtain ⟨⟨hS, hT, hR, hDs⟩, ⟨iT, iR, iF⟩, ⟨i1, i2, i7, i8, i9, i10, i11, i12⟩, hn⟩ := id hh
  exact b_piece (K := fun _ s => J9 n mu ro s) hS (by omega) hT hR hDs iT iR iF i11 i1 (fun _ _ a b c e f => (hh.to f (Or.inl (by decide)) (Or.inl (by decide)) (Or.inr ⟨_, b, c, e⟩) (Or.inl (by decide)) (Or.inl (by decide)) (Or.inl (by decide)) (Or.inl (by decide)) (Or.inr a) (Or.inl (by decide))))
theorem j_chain {x l i w : Int32} (hJ : J9 n mu ro sg) (hd : 18 ≤ d) : aCall d 111 [.ref 0, .int x, .int l, .int i, .int w] n mu ro sg (fun r1 sg1 => aCall d 199 [.ref 48, .int x, .int l, .int i, .int w] n mu ro sg1 (fun r2 sg2 => r1 = r2 ∧ J9 n mu ro sg2)) := by
  obtain ⟨T, Q, F, tb, rb, N1, N2, N3, N4, hh⟩ := id hJ
  obtain ⟨⟨hS, hT, hR, hDs⟩, ⟨iT, iR, iF⟩, ⟨i1, i2, i7, i8, i9, i10, i11, i12⟩, hn⟩ := id hh
  exact b_chain (K := fun _ s => J9 n mu ro s) hS (by omega) i11 iR iF iT.2.1 (fun _ _ a f => (hh.to f (Or.inl (by decide)) (Or.inl (by decide)) (Or.inl (by decide)) (Or.inl (by decide)) (Or.inl (by decide)) (Or.inl (by decide)) (Or.inl (by decide)) (Or.inr a) (Or.inl (by decide))))
theorem j_talk {x a b : Int32} (hJ : J9 n mu ro sg) (hd : 18 ≤ d) : aCallA 3 168 d 100 [.ref 0, .int x, .int a, .int b] n mu ro sg (fun r1 n1 mu1 ro1 sg1 => mu1 48 = (22, 55) ∧ aCall d 177 [.ref 48, .int x, .int a, .int b] n1 mu1 ro1 sg1 (fun r2 sg2 => r1 = r2 ∧ J9 n1 mu1 ro1 sg2)) := by
  obtain ⟨T, Q, F, tb, rb, N1, N2, N3, N4, hh⟩ := id hJ
  obtain ⟨⟨hS, hT, hR, hDs⟩, ⟨iT, iR, iF⟩, ⟨i1, i2, i7, i8, i9, i10, i11, i12⟩, hn⟩ := id hh
  refine b_talk hS (by omega) (by omega) hT hR hDs iT iR iF hJ (fun mu' ro' sg' g1 g2 g3 g4 g5 g6 g7 f => ?_)
  exact ⟨T + 1, Q, F, _, rb, N1, N2, N3, N4, ⟨g1, g2, g3, g4⟩, ⟨g5, g6, g7⟩, ⟨i1.fr (f.to (by decide) (by decide)), i2.fr (f.to (by decide) (by decide)), i7.fr (f.to (by decide) (by decide)), i8.fr (f.to (by decide) (by decide)), i9.fr (f.to (by decide) (by decide)), i10.fr (f.to (by decide) (by decide)), i11.fr2 (fun a k z => z.elim (fun z => f.to (by decide) (by decide) a k z) (fun z => f.to (by decide) (by decide) a k z)), i12.fr (f.to (by decide) (by decide))⟩, by omega⟩
theorem j_row {x l i w : Int32} (hJ : J9 n mu ro sg) (hd : 18 ≤ d) : aCallA 2 8 d 104 [.ref 0, .int x, .int l, .int i, .int w] n mu ro sg (fun r1 n1 mu1 ro1 sg1 => mu1 48 = (22, 55) ∧ aCall d 187 [.ref 48, .int x, .int l, .int i, .int w] n1 mu1 ro1 sg1 (fun r2 sg2 => r1 = r2 ∧ J9 n1 mu1 ro1 sg2)) := by
  obtain ⟨T, Q, F, tb, rb, N1, N2, N3, N4, hh⟩ := id hJ
  obtain ⟨⟨hS, hT, hR, hDs⟩, ⟨iT, iR, iF⟩, ⟨i1, i2, i7, i8, i9, i10, i11, i12⟩, hn⟩ := id hh
  refine b_row hS (by omega) (by omega) hT hR hDs iT iR iF i11 (fun sg' a f => (hh.to f (Or.inl (by decide)) (Or.inl (by decide)) (Or.inl (by decide)) (Or.inl (by decide)) (Or.inl (by decide)) (Or.inl (by decide)) (Or.inl (by decide)) (Or.inr a) (Or.inl (by decide)))) (fun mu' ro' sg' g1 g2 g3 g4 g5 g6 g7 g8 f => ?_)
  exact ⟨T, Q + 1, F, tb, _, N1, N2, N3, N4, ⟨g1, g2, g3, g4⟩, ⟨g5, g6, g7⟩, ⟨i1.fr (f.to (by decide) (by decide)), i2.fr (f.to (by decide) (by decide)), i7.fr (f.to (by decide) (by decide)), i8.fr (f.to (by decide) (by decide)), i9.fr (f.to (by decide) (by decide)), i10.fr (f.to (by decide) (by decide)), g8, i12.fr (f.to (by decide) (by decide))⟩, by omega⟩
end H82
