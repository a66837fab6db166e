/-! part 86: the law's words (the skeleton's), the first state, what the tables say -/
/-! THE CLAIM OUT OF ONE WALK OF THE LAW'S BODY. Your part is whole_start (and what it stands on); all else here is the same for every law, but numbers. -/
def R_law : String := "WireWatchLaw"
def lw_P (b : Addr) (xs : List Int32) (args : Array Value) (s : State) : Prop := args = #[.ref b] ∧ s.IntsAt b xs ∧ xs.length ≤ 4096 ∧ (Jvm.Cond.and given_1 narrow_1).before args s = true
def lw_Q (_ : Array Value) (s : State) (o : Outcome) (t : State) : Prop := o = .returned (some (.int 1)) ∧ Framed s o t [] 600000 7302250
def lw_Z (below : List Frame) (a : Array Value) (s : State) : State → Prop := fun t => ∃ o, t.status = .running ∧ Ended t below o ∧ lw_Q a s o t
/-- the law's own end, with 1 on the stack, nothing written that was there before, its room as the claim has it -/
theorem lw_ret {p : Program} {l : Launch} {e : Env} {s : State} {m : MethodId} {below : List Frame} {meth : Method} {c : Code} {b : Nat} (hx : p.tables.exec = Jvm.exec) (hb : c.code = code) (hr : meth.sig.returnType = ret) (hlocks : meth.locks = false) {pc : Nat} {H : Heap} {ls : Array Slot} (hdg : decode code pc = .ok (.ireturn, 1)) : W p l e room_1 s m #[Value.ref b] below meth c H [] 600000 7302250 (lw_Z below #[Value.ref b] s) (F0 m pc ls [.int 1]) := by
  intro T hT X
  obtain ⟨fs, hret, hrun, hended, hW, hframe⟩ := X.leave (v := some (.int 1)) (hlocks := hlocks) (fun h => by rw [hr] at h; cases h)
  have hmeth' : T.vm.method? m = some meth := X.method'
  refine ⟨T.setFrames fs, ?_, .returned (some (.int 1)), hrun, hended, rfl, ⟨_, rfl⟩, hW, hframe⟩
  jvm_step X.here [X.here.top, hx, hb, hdg, hmeth', hr, ret, narrow_b1]
  (try refine ⟨rfl, ?_⟩); (try refine ⟨rfl, ?_⟩)
  first | (intro acts; rw [hret _ acts rfl rfl rfl]) | rw [hret _ _ rfl rfl rfl]
  exact Steps.refl _
/-- what holds at the law's entry: the machine, the code, the tables' words (any of lw_tbl by 'hts w (by decide +kernel)'), the script of L ints xs at the cell b, what the Statement gives of the start (any of its parts by flat_of_before) -/
def lw_At (p : Program) (s : State) (m : MethodId) (meth : Method) (c : Code) (b L : Nat) (xs : Nat → Int32) : Prop :=
  p.tables.exec = Jvm.exec ∧ c.code = code ∧ meth.sig.returnType = ret ∧ c.maxLocals = 4 ∧ s.vm.findClass R_law = some m.cls ∧ (∀ w ∈ lw_tbl, w.before #[Value.ref b] s = true) ∧ va_X b L xs s s.heap ∧ b < s.heap.size ∧ meth.locks = false ∧ (Jvm.Cond.and given_1 narrow_1).before #[Value.ref b] s = true

section H86
def z0 : aS := fun _ _ => 0
def s0 : aS := sV (sW z0)
def r0 : List (List (Option Nat)) := rV (rW [])
theorem s0_z {a k : Nat} (h : a ≠ 30 ∧ a ≠ 36 ∧ a ≠ 48 ∧ a ≠ 75 ∧ a ≠ 51 ∧ a ≠ 82 ∧ a ≠ 58 ∧ a ≠ 59 ∧ a ≠ 85) : s0 a k = 0 := by
  unfold s0 sV sW
  rw [fl_n (by omega), fl_n (by omega), fl_n (by omega), fl_n (by omega), fl_n (by omega), fl_n (by omega), s2_n (by omega), fl_n (by omega), s2_n (by omega)]
  rfl
theorem s0_48 {k : Nat} (h : k ≠ 36) : s0 48 k = 0 := by
  unfold s0 sV sW
  rw [fl_n (by omega), fl_n (by omega), fl_n (by omega), fl_n (by omega), fl_n (by omega), fl_n (by omega), s2_n (by omega), fl_n (by omega), s2_n (by omega)]
  rfl
theorem s0_m : s0 48 36 = 1 := by
  unfold s0 sV sW
  rw [fl_n (by omega), fl_n (by omega), fl_n (by omega), fl_n (by omega), fl_n (by omega), fl_n (by omega), s2_y ⟨rfl, rfl⟩]
theorem s0_30 {k : Nat} (h : k ≠ 4) : s0 30 k = 0 := by
  unfold s0 sV sW
  rw [fl_n (by omega), fl_n (by omega), fl_n (by omega), fl_n (by omega), fl_n (by omega), fl_n (by omega), s2_n (by omega), fl_n (by omega), s2_n (by omega)]
  rfl
theorem s0_t : s0 30 4 = 1 := by
  unfold s0 sV sW
  rw [fl_n (by omega), fl_n (by omega), fl_n (by omega), fl_n (by omega), fl_n (by omega), fl_n (by omega), s2_n (by omega), fl_n (by omega), s2_y ⟨rfl, rfl⟩]
theorem s0_36 {j : Nat} (h : j < 40) : s0 36 j = -9 := by
  unfold s0 sV sW
  rw [fl_n (by omega), fl_n (by omega), fl_n (by omega), fl_n (by omega), fl_n (by omega), fl_n (by omega), s2_n (by omega), fl_y ⟨rfl, h⟩]
theorem s0_75 {j : Nat} (h : j < 64) : s0 75 j = -9 := by
  unfold s0 sV sW
  rw [fl_n (by omega), fl_n (by omega), fl_n (by omega), fl_n (by omega), fl_n (by omega), fl_y ⟨rfl, h⟩]
theorem s0_51 {j : Nat} (h : j < 100) : s0 51 j = -9 := by
  unfold s0 sV sW
  rw [fl_n (by omega), fl_n (by omega), fl_n (by omega), fl_n (by omega), fl_y ⟨rfl, h⟩]
theorem s0_82 {j : Nat} (h : j < 40) : s0 82 j = -9 := by
  unfold s0 sV sW
  rw [fl_n (by omega), fl_n (by omega), fl_n (by omega), fl_y ⟨rfl, h⟩]
theorem s0_58 {j : Nat} (h : j < 640) : s0 58 j = -9 := by
  unfold s0 sV sW
  rw [fl_n (by omega), fl_n (by omega), fl_y ⟨rfl, h⟩]
theorem s0_59 {j : Nat} (h : j < 640) : s0 59 j = -9 := by
  unfold s0 sV sW
  rw [fl_n (by omega), fl_y ⟨rfl, h⟩]
theorem s0_85 {j : Nat} (h : j < 4) : s0 85 j = -1 := by
  unfold s0 sV sW
  rw [fl_y ⟨rfl, h⟩]
theorem sh_0 : Sh (muP 89) (mkR r0) := by
  refine ⟨fun a ha => by rw [muP, if_pos ha], fun a k ha h1 h2 _ => ?_⟩
  have e : ∀ a, a < 89 → a ≠ 13 → a ≠ 14 → r0.getD a [] = roS.getD a [] := by decide +kernel
  unfold mkR
  rw [e a ha h1 h2]
theorem n0 : (0 : Int32) = nI 0 := rfl
theorem n1 : (1 : Int32) = nI 1 := rfl
theorem bw0 {lo hi : Int} (h1 : lo ≤ 0) (h2 : 0 ≤ hi) : i_bw 0 lo hi := ⟨h1, h2⟩
theorem nt_0 : I_nt s0 := by
  refine ⟨fun _ _ => false, fun _ _ => false, 0, fun _ => 0, fun _ => 0, fun _ => false, ⟨by omega, fun _ _ _ _ => rfl, fun _ _ => rfl, fun _ _ _ _ => rfl, fun _ _ _ _ h => h, fun e he => absurd he (by omega), fun e f he => absurd he (by omega), fun e _ h => absurd h Bool.false_ne_true⟩, ⟨fun a _ => ?_, fun a _ => ?_, ?_, fun e he => absurd he (by omega), ?_, 0, ?_, by decide⟩, ⟨fun a _ => ?_, fun a _ => ?_, ?_, fun e he => absurd he (by omega), ?_, fun a b ha hb => Or.inr ⟨s0_51 (by omega), fun e he => absurd he (by omega)⟩⟩⟩
  · rw [s0_z (by decide)]; exact rw_0
  · rw [s0_z (by decide)]; exact rw_0
  · rw [s0_z (by decide)]; rfl
  · rw [s0_z (by decide)]; exact rw_0
  · rw [s0_z (by decide)]; rfl
  · rw [s0_z (by decide)]; exact rw_0
  · rw [s0_z (by decide)]; exact rw_0
  · rw [s0_48 (by decide)]; rfl
  · rw [s0_48 (by decide)]; exact rw_0
theorem tp_0 : I_tp s0 1 := by
  refine ⟨⟨s0_t.trans n1, s0_m.trans n1⟩, by omega, by omega, by rw [s0_30 (by decide), s0_48 (by decide)], fun j hj => ?_, fun x hx => Or.inl ⟨s0_75 hx, s0_z (by decide)⟩, fun x y hx hy _ h => ?_⟩
  · rw [s0_z (by decide), s0_z (by decide)]
    exact ⟨rfl, bw0 (by decide) (by decide)⟩
  · rw [s0_75 hx] at h
    exact absurd h (by decide)
theorem J_0 : J9 89 (muP 89) (mkR r0) s0 := by
  refine ⟨0, 0, 0, fun _ => 0, fun _ => 0, 0, 0, 1, 0, ⟨sh_0, fun t h => absurd h (by omega), fun t h => absurd h (by omega), fun t u h => absurd h (by omega), fun t u h => absurd h (by omega), fun t u h => absurd h (by omega)⟩, ⟨?_, ?_, ?_⟩, ⟨nt_0, ?_, ?_, ?_, tp_0, ?_, ?_, ?_⟩, by omega⟩
  · exact ⟨⟨(s0_z (by decide)).trans n0, (s0_48 (by decide)).trans n0⟩, by omega, fun t h => absurd h (by omega), fun t _ ht => ⟨s0_z (by decide), s0_z (by decide), fun p hp => ⟨s0_58 (by omega), s0_59 (by omega)⟩⟩⟩
  · exact ⟨⟨(s0_z (by decide)).trans n0, (s0_48 (by decide)).trans n0⟩, by omega, fun t h => absurd h (by omega)⟩
  · exact ⟨⟨(s0_z (by decide)).trans n0, (s0_48 (by decide)).trans n0⟩, by omega, fun t h => absurd h (by omega), fun f _ _ => s0_z (by decide)⟩
  · exact ⟨⟨(s0_z (by decide)).trans n0, (s0_48 (by decide)).trans n0⟩, by omega, fun t h => absurd h (by omega)⟩
  · refine ⟨fun j hj => ?_, fun j hj => ?_⟩
    · rw [s0_z (by decide), s0_z (by decide)]
      exact ⟨rfl, bw0 (by decide) (by decide)⟩
    · rw [s0_z (by decide), s0_z (by decide)]
      exact ⟨rfl, bw0 (by decide) (by decide)⟩
  · exact ⟨fun j _ => by rw [s0_z (by decide), s0_z (by decide)], ⟨(s0_z (by decide)).trans n0, (s0_48 (by decide)).trans n0⟩, by omega, fun t h => absurd h (by omega), fun j _ _ => s0_z (by decide)⟩
  · refine ⟨fun j hj => ?_, ⟨(s0_z (by decide)).trans n0, (s0_48 (by decide)).trans n0⟩, by omega, fun k hk => ⟨(s0_z (by decide)).trans n0, (s0_z (by decide)).trans n0⟩⟩
    rw [s0_36 hj, s0_82 hj]
    exact ⟨rfl, by decide, by decide⟩
  · exact ⟨by rw [s0_z (by decide), s0_48 (by decide)], Or.inl ⟨s0_z (by decide), s0_85 (by decide)⟩, Or.inl ⟨s0_z (by decide), s0_85 (by decide)⟩, Or.inl ⟨s0_z (by decide), s0_85 (by decide)⟩, Or.inl ⟨s0_z (by decide), s0_85 (by decide)⟩⟩
  · show s0 0 13 = s0 48 54
    rw [s0_z (by decide), s0_48 (by decide)]
theorem ins_ok : ∀ ci, ci < 13 → Cond.instantiable (RN ci) (nN ci) ∈ tgw
  | 0, _ => (tgw_at (i := 186) (by decide +kernel) rfl)
  | 1, _ => (tgw_at (i := 156) (by decide +kernel) rfl)
  | 2, _ => (tgw_at (i := 205) (by decide +kernel) rfl)
  | 3, _ => (tgw_at (i := 265) (by decide +kernel) rfl)
  | 4, _ => (tgw_at (i := 86) (by decide +kernel) rfl)
  | 5, _ => (tgw_at (i := 602) (by decide +kernel) rfl)
  | 6, _ => (tgw_at (i := 291) (by decide +kernel) rfl)
  | 7, _ => (tgw_at (i := 219) (by decide +kernel) rfl)
  | 8, _ => (tgw_at (i := 470) (by decide +kernel) rfl)
  | 9, _ => (tgw_at (i := 238) (by decide +kernel) rfl)
  | 10, _ => (tgw_at (i := 132) (by decide +kernel) rfl)
  | 11, _ => (tgw_at (i := 78) (by decide +kernel) rfl)
  | 12, _ => (tgw_at (i := 1002) (by decide +kernel) rfl)
  | n + 13, h => absurd h (by omega)
theorem nst_at {s : State} {b : Nat} (hts : ∀ w ∈ lw_tbl, w.before #[Value.ref b] s = true) : ∀ w ∈ nestQ, va_Nw (.methodLinkNest w.1 w.2.1 w.2.2.1 w.2.2.2) s := by
  intro w hw
  refine va_Nw.of (A := #[Value.ref b]) rfl ?_
  have key : ∀ w ∈ nestQ, Cond.methodLinkNest w.1 w.2.1 w.2.2.1 w.2.2.2 ∈ lw_tbl := by decide +kernel
  exact hts _ (key w hw)
theorem s_K {s : State} {b : Nat} (hts : ∀ w ∈ lw_tbl, w.before #[Value.ref b] s = true) : ∃ (D : va_G) (dA : Nat → ClassId), aK D dA s := by
  have hg : ∀ w ∈ tgw, w.before #[Value.ref b] s = true := fun w hw => hts w (List.mem_filter.mp hw).1
  have hK : ∀ ci, ci < 13 → ∃ (c : ClassId) (iS : Nat → Nat), u_Kn s (RN ci) (TN ci) (nN ci) c iS := fun ci h => u_known hg (inT ci h) (hg _ (ins_ok ci h))
  have hK2 : ∀ ci : Nat, ∃ (c : ClassId), ∃ (iS : Nat → Nat), ci < 13 → u_Kn s (RN ci) (TN ci) (nN ci) c iS := fun ci => by
    by_cases h : ci < 13
    · obtain ⟨c, iS, q⟩ := hK ci h
      exact ⟨c, iS, fun _ => q⟩
    · obtain ⟨c, iS, _⟩ := hK 0 (by decide)
      exact ⟨c, iS, fun z => absurd z h⟩
  obtain ⟨dC, hC⟩ := Classical.axiomOfChoice hK2
  obtain ⟨dI, hI⟩ := Classical.axiomOfChoice hC
  obtain ⟨a1, k1, p1, f1, g1, q1⟩ := Cond.arrayClass_spec (hg _ aw_int)
  obtain ⟨a2, k2, p2, f2, g2, q2⟩ := Cond.arrayClass_spec (hg _ aw_boo)
  have w3 : (Cond.arrayOver (.object RX5)).before #[Value.ref b] s = true := hts _ (List.mem_of_getElem? (i := 154) (by decide +kernel))
  have w4 : (Cond.arrayOver (.object RX6)).before #[Value.ref b] s = true := hts _ (List.mem_of_getElem? (i := 290) (by decide +kernel))
  have w5 : (Cond.arrayOver (.object RX8)).before #[Value.ref b] s = true := hts _ (List.mem_of_getElem? (i := 152) (by decide +kernel))
  obtain ⟨p3, a3, k3, e3, -, g3, q3, f3⟩ := Cond.arrayOver_spec w3
  obtain ⟨p4, a4, k4, e4, -, g4, q4, f4⟩ := Cond.arrayOver_spec w4
  obtain ⟨p5, a5, k5, e5, -, g5, q5, f5⟩ := Cond.arrayOver_spec w5
  refine ⟨(dC, dI), fun k => if k = 1 then a1 else if k = 2 then a2 else if k = 3 then a3 else if k = 4 then a4 else a5, ⟨fun c q hq => ?_, fun k q hq => ?_⟩, nst_at hts, va_AO.of w3, va_AO.of w4, va_AO.of w5⟩
  · have hc : c < 13 := (List.getElem?_eq_some_iff.mp hq).1
    cases (vwCl_at c hc).symm.trans hq
    exact hI c hc
  · have hk : k < 5 := (List.getElem?_eq_some_iff.mp hq).1
    rcases (show k = 0 ∨ k = 1 ∨ k = 2 ∨ k = 3 ∨ k = 4 by omega) with rfl | rfl | rfl | rfl | rfl
    · cases hq
      exact ⟨fun N z => ⟨(fun k h => by cases h), k1, g1, p1, q1⟩, f1⟩
    · cases hq
      exact ⟨fun N z => ⟨(fun k h => by cases h), k2, g2, p2, q2⟩, f2⟩
    · cases hq
      exact ⟨fun N z => ⟨(fun k h => by cases h), k3, g3, p3, q3⟩, k3, p3, g3, q3, e3, f3⟩
    · cases hq
      exact ⟨fun N z => ⟨(fun k h => by cases h), k4, g4, p4, q4⟩, k4, p4, g4, q4, e4, f4⟩
    · cases hq
      exact ⟨fun N z => ⟨(fun k h => by cases h), k5, g5, p5, q5⟩, k5, p5, g5, q5, e5, f5⟩
theorem s_sets {s : State} {b : Nat} (hts : ∀ w ∈ lw_tbl, w.before #[Value.ref b] s = true) (hgv : (Jvm.Cond.and given_1 narrow_1).before #[Value.ref b] s = true) : aZ1 RX2 "SETS_BY_SIZE" 15 z_sets s.heap.size s := by
  have hs := flat_of_before _ hgv
  have hA : ∀ a : Nat, a < s.heap.size → ¬ (fun q : Nat => s.heap.size ≤ q) a := fun a h => Nat.not_le.mpr h
  obtain ⟨t, ht, hT⟩ := va_Tof (args := #[Value.ref b]) (s := s) (tm := (Term.static RX2 "SETS_BY_SIZE" "[I")) (ty := .int) (N := 15) (f := fun j => .int (z_sets j)) (A := fun q : Nat => s.heap.size ≤ q) (by decide) (hs _ (by decide +kernel)) (va_eqt (hs (Cond.eq (.length (Term.static RX2 "SETS_BY_SIZE" "[I")) (.int 15)) (by decide +kernel))) (fun j hj => by
    rcases (show j = 0 ∨ j = 1 ∨ j = 2 ∨ j = 3 ∨ j = 4 ∨ j = 5 ∨ j = 6 ∨ j = 7 ∨ j = 8 ∨ j = 9 ∨ j = 10 ∨ j = 11 ∨ j = 12 ∨ j = 13 ∨ j = 14 by omega) with rfl | rfl | rfl | rfl | rfl | rfl | rfl | rfl | rfl | rfl | rfl | rfl | rfl | rfl | rfl
    · exact va_eqt (hs (Cond.eq (.elem (Term.static RX2 "SETS_BY_SIZE" "[I") (.int 0)) (.int 1)) (by decide +kernel))
    · exact va_eqt (hs (Cond.eq (.elem (Term.static RX2 "SETS_BY_SIZE" "[I") (.int 1)) (.int 14)) (by decide +kernel))
    · exact va_eqt (hs (Cond.eq (.elem (Term.static RX2 "SETS_BY_SIZE" "[I") (.int 2)) (.int 91)) (by decide +kernel))
    · exact va_eqt (hs (Cond.eq (.elem (Term.static RX2 "SETS_BY_SIZE" "[I") (.int 3)) (.int 364)) (by decide +kernel))
    · exact va_eqt (hs (Cond.eq (.elem (Term.static RX2 "SETS_BY_SIZE" "[I") (.int 4)) (.int 1001)) (by decide +kernel))
    · exact va_eqt (hs (Cond.eq (.elem (Term.static RX2 "SETS_BY_SIZE" "[I") (.int 5)) (.int 2002)) (by decide +kernel))
    · exact va_eqt (hs (Cond.eq (.elem (Term.static RX2 "SETS_BY_SIZE" "[I") (.int 6)) (.int 3003)) (by decide +kernel))
    · exact va_eqt (hs (Cond.eq (.elem (Term.static RX2 "SETS_BY_SIZE" "[I") (.int 7)) (.int 3432)) (by decide +kernel))
    · exact va_eqt (hs (Cond.eq (.elem (Term.static RX2 "SETS_BY_SIZE" "[I") (.int 8)) (.int 3003)) (by decide +kernel))
    · exact va_eqt (hs (Cond.eq (.elem (Term.static RX2 "SETS_BY_SIZE" "[I") (.int 9)) (.int 2002)) (by decide +kernel))
    · exact va_eqt (hs (Cond.eq (.elem (Term.static RX2 "SETS_BY_SIZE" "[I") (.int 10)) (.int 1001)) (by decide +kernel))
    · exact va_eqt (hs (Cond.eq (.elem (Term.static RX2 "SETS_BY_SIZE" "[I") (.int 11)) (.int 364)) (by decide +kernel))
    · exact va_eqt (hs (Cond.eq (.elem (Term.static RX2 "SETS_BY_SIZE" "[I") (.int 12)) (.int 91)) (by decide +kernel))
    · exact va_eqt (hs (Cond.eq (.elem (Term.static RX2 "SETS_BY_SIZE" "[I") (.int 13)) (.int 14)) (by decide +kernel))
    · exact va_eqt (hs (Cond.eq (.elem (Term.static RX2 "SETS_BY_SIZE" "[I") (.int 14)) (.int 1)) (by decide +kernel))) hA
  exact ⟨t, va_Zref (hts _ (List.mem_of_getElem? (i := 739) (by decide +kernel))) (hts _ (List.mem_of_getElem? (i := 65) (by decide +kernel))) ht hA, hT⟩
theorem s_A {s : State} {b : Nat} (hts : ∀ w ∈ lw_tbl, w.before #[Value.ref b] s = true) (hgv : (Jvm.Cond.and given_1 narrow_1).before #[Value.ref b] s = true) : aZ1 RX7 "A" 3 z_A s.heap.size s := by
  have hs := flat_of_before _ hgv
  have hA : ∀ a : Nat, a < s.heap.size → ¬ (fun q : Nat => s.heap.size ≤ q) a := fun a h => Nat.not_le.mpr h
  obtain ⟨t, ht, hT⟩ := va_Tof (args := #[Value.ref b]) (s := s) (tm := (Term.static RX7 "A" "[I")) (ty := .int) (N := 3) (f := fun j => .int (z_A j)) (A := fun q : Nat => s.heap.size ≤ q) (by decide) (hs _ (by decide +kernel)) (va_eqt (hs (Cond.eq (.length (Term.static RX7 "A" "[I")) (.int 3)) (by decide +kernel))) (fun j hj => by
    rcases (show j = 0 ∨ j = 1 ∨ j = 2 by omega) with rfl | rfl | rfl
    · exact va_eqt (hs (Cond.eq (.elem (Term.static RX7 "A" "[I") (.int 0)) (.int 31)) (by decide +kernel))
    · exact va_eqt (hs (Cond.eq (.elem (Term.static RX7 "A" "[I") (.int 1)) (.int 57)) (by decide +kernel))
    · exact va_eqt (hs (Cond.eq (.elem (Term.static RX7 "A" "[I") (.int 2)) (.int 83)) (by decide +kernel))) hA
  exact ⟨t, va_Zref (hts _ (List.mem_of_getElem? (i := 772) (by decide +kernel))) (hts _ (List.mem_of_getElem? (i := 66) (by decide +kernel))) ht hA, hT⟩
theorem s_B {s : State} {b : Nat} (hts : ∀ w ∈ lw_tbl, w.before #[Value.ref b] s = true) (hgv : (Jvm.Cond.and given_1 narrow_1).before #[Value.ref b] s = true) : aZ1 RX7 "B" 3 z_B s.heap.size s := by
  have hs := flat_of_before _ hgv
  have hA : ∀ a : Nat, a < s.heap.size → ¬ (fun q : Nat => s.heap.size ≤ q) a := fun a h => Nat.not_le.mpr h
  obtain ⟨t, ht, hT⟩ := va_Tof (args := #[Value.ref b]) (s := s) (tm := (Term.static RX7 "B" "[I")) (ty := .int) (N := 3) (f := fun j => .int (z_B j)) (A := fun q : Nat => s.heap.size ≤ q) (by decide) (hs _ (by decide +kernel)) (va_eqt (hs (Cond.eq (.length (Term.static RX7 "B" "[I")) (.int 3)) (by decide +kernel))) (fun j hj => by
    rcases (show j = 0 ∨ j = 1 ∨ j = 2 by omega) with rfl | rfl | rfl
    · exact va_eqt (hs (Cond.eq (.elem (Term.static RX7 "B" "[I") (.int 0)) (.int 7)) (by decide +kernel))
    · exact va_eqt (hs (Cond.eq (.elem (Term.static RX7 "B" "[I") (.int 1)) (.int 19)) (by decide +kernel))
    · exact va_eqt (hs (Cond.eq (.elem (Term.static RX7 "B" "[I") (.int 2)) (.int 5)) (by decide +kernel))) hA
  exact ⟨t, va_Zref (hts _ (List.mem_of_getElem? (i := 774) (by decide +kernel))) (hts _ (List.mem_of_getElem? (i := 66) (by decide +kernel))) ht hA, hT⟩
end H86
