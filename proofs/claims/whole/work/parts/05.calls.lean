/-! part 05: calls, switches, returns; the run of many instructions; how a contract begins -/
theorem okM_spec {k : Nat} (hk : k < 255) : (sM k = true → Cond.static (yM k) ∈ tgw) ∧ (sM k = false → Cond.instanceMethod (yM k) ∈ tgw) ∧ Cond.initialized (yM k).cls ∈ tgw ∧ (sM k = false → (yM k).name ≠ "<init>" → Cond.selects (RN (oM k)) (yM k) (yM k) ∈ tgw) ∧ (yM k).cls = RN (oM k) ∧ ((yM k).cls ≠ "java/lang/invoke/MethodHandle" ∧ (yM k).cls ≠ "java/lang/invoke/VarHandle" ∧ (parseMethodDescriptor (yM k).desc).map (fun d => d.parameters.length) = some (pM k)) ∧ lM k ≤ 40 ∧ (sM k = false → oM k < 13) := by
  have h := okM_all hk
  unfold okM at h
  rcases hm : mpos.getD k (0, 0, 0, 0, false, 0, 0) with ⟨pc, ps, pl, pi, st, np, oc⟩
  rw [hm] at h
  have e1 : sM k = st := by unfold sM; rw [hm]
  have e2 : pM k = np := by unfold pM; rw [hm]
  have e3 : oM k = oc := by unfold oM; rw [hm]
  rw [e1, e2, e3]
  simp only [Bool.and_eq_true, decide_eq_true_eq, Bool.or_eq_true, beq_iff_eq] at h
  obtain ⟨⟨⟨⟨⟨⟨h2, h3⟩, h4⟩, h5⟩, h6⟩, h7⟩, h8⟩ := h
  refine ⟨fun q => ?_, fun q => ?_, tgw_at h3 rfl, fun q q2 => ?_, h5, h6, h7, fun q => ?_⟩
  · rw [if_pos q] at h2
    exact tgw_at h2 rfl
  · rw [if_neg (by rw [q]; decide)] at h2
    exact tgw_at h2 rfl
  · rcases h4 with (h4 | h4) | h4
    · rw [q] at h4; cases h4
    · exact absurd h4 q2
    · exact tgw_at h4 rfl
  · rcases h8 with h8 | h8
    · rw [q] at h8; cases h8
    · exact h8
theorem good_k {k : Nat} (hk : k < 255) : GoodIn tgw (Cond.code (yM k) (cM k) (lM k) (rM k) :: tgw) := by
  intro w hw
  rcases List.mem_cons.mp hw with rfl | hw
  · exact ⟨mcode k hk, Or.inl rfl⟩
  · exact tgw_good w hw
theorem aPre_blind {av : List Value} {D : va_G} {dA : Nat → ClassId} {B n : Nat} {mu : aM} {ro : aR} {sg : aS} : FrameBlind (va_Pc av (aPre D dA B n mu ro sg)) := by
  intro a U g mk q
  obtain ⟨q0, q1, q2, q3, q4⟩ := q
  exact ⟨q0, q1, q2.same rfl, q3.to (U := U.calling g mk a) (locs := []) (Vm.Alike.refl U.vm) va_S.rf, q4⟩
section ACL
variable {p : Program} {l : Launch} {e : Env} {R : Room} {s : State} {m : MethodId} {args : Array Value} {below : List Frame} {meth : Method} {c : Code} {H : Heap} {locs : List Loc} {cells slots : Nat} {Q : State → Prop}
variable {pc : Nat} {ls : Array Slot} {rest st0 : List Value} {a : Array Value} {H0 : Heap} {mc ms B : Nat} {D : va_G} {dA : Nat → ClassId} {K : Option Value → Nat → aM → aR → aS → Prop}
/-- behind a call -/
theorem aw_call (hr : va_Run p l e R s m args below meth c H locs cells slots mc ms (F0 m pc ls st0) rest (aQ D dA B K a) (fun q => B ≤ q)) (hS : va_S (fun q => B ≤ q) H0 H locs)
    (kk : ∀ (r : Option Value) (n' : Nat) (mu' : aM) (ro' : aR) (sg' : aS) (H1 : Heap) (locs1 : List Loc), K r n' mu' ro' sg' → aP D dA B n' mu' ro' sg' H1 → H1.size = B + n' → va_S (fun q => B ≤ q) H0 H1 locs1 → W p l e R s m args below meth c H1 locs1 (cells + mc) (slots + ms) Q (F0 m (pc + 3) ls ((r.map (cv B)).toList ++ rest))) : W p l e R s m args below meth c H locs cells slots Q (F0 m pc ls st0) := by
  intro T hT X
  obtain ⟨v, st₀, t, T', L, h0, X', hL, e1, e2, ⟨⟨r, n', mu', ro', sg', hv, hk, hp, hsz⟩, hz, hkp⟩, st⟩ := hr T hT X
  cases hv
  rw [h0] at hz hkp
  obtain ⟨t2, a1, b1⟩ := kk r n' mu' ro' sg' T'.heap (locs ++ L) hk (by rw [e1]; exact hp) (by rw [e1]; exact hsz) ⟨Nat.le_trans hS.1 (by rw [e1]; exact hz), fun q h1 h2 => by rw [e1, hkp q (Nat.lt_of_lt_of_le h1 hS.1) h2]; exact hS.2.1 q h1 h2, fun q hq => by
      rcases List.mem_append.mp hq with h | h
      · exact hS.2.2 q h
      · exact hL q h⟩ T' rfl X'
  exact ⟨t2, st t2 a1, b1⟩
end ACL
theorem map_app {B : Nat} {r : Option Value} {rest : List Value} : (r.toList ++ rest).map (cv B) = (r.map (cv B)).toList ++ rest.map (cv B) := by
  cases r <;> simp
section SND2
variable {G : aG} {mL d n0 o n nc ns pc mc ms : Nat} {cc : ByteArray} {mu : aM} {ro : aR} {sg : aS} {L st : List Value} {K : Nat → List Value → List Value → aS → Prop} {Rt : Option Value → aS → Prop}
def Rm (G : aG) (nc ns : Nat) : Prop := match G with
  | ((_, _, _, R, _, _), _, _, _) => nc ≤ R.cells ∧ ns ≤ R.slots
/-- a static method is called, in general -/
theorem av_static {k i : Nat} {av rest : List Value} {KA : Option Value → Nat → aM → aR → aS → Prop} (hC : Cx G mL d n0 o cc) (hn : n = n0 + nc) (hRm : Rm G (nc + mc) (ns + ms)) (hd : dk cc pc = some (.invokestatic i)) (hk : cres o i = some k) (hst : sM k = true) (hr8 : cs rest ≤ 8) (hd1 : 1 ≤ d) (ht : takeA (pM k) [] st = some (av, rest))
    (hM : aCallA mc ms (d - 1) k av n mu ro sg KA) (hK : ∀ r n' mu' ro' sg', KA r n' mu' ro' sg' → AW G mL n' (nc + mc) (ns + ms) mu' ro' sg' (pc + 3) L (r.toList ++ rest)) : AW G mL n nc ns mu ro sg pc L st := by
  obtain ⟨⟨p, l, e, R, s, m⟩, ⟨args, below, meth, c⟩, ⟨D, dA, B⟩, Q⟩ := G
  obtain ⟨hx, hb, hml, hown, hts, hlk, hkk, hz, h0, hf, hlo⟩ := hC
  obtain ⟨k1, k2⟩ := cres_ok hk
  obtain ⟨o1, o2, o3, o4, o5, o6, o7, o8⟩ := okM_spec k1
  obtain ⟨t, t1, t2, t3⟩ := takeA_ok _ _ _ _ _ ht
  intro H locs ls hP hS hl
  refine W.sized (fun hsz => ?_)
  have hsz2 := hP.size hS h0 hn hsz
  have hdd := dk_1 hd rfl
  have hstack : st.map (cv B) = (av.map (cv B)).reverse ++ rest.map (cv B) := by rw [t1, t2]; simp
  have hlen : (av.map (cv B)).length = pM k := by rw [t2]; simp [t3]
  have hroom : 2 * (F0 m pc ls (st.map (cv B))).monitorRoom + ((rest.map (cv B)).map fun v => v.category).sum ≤ 8 := lv_room (by rw [cs_map]; exact hr8)
  have hRR : (d - 1) + 1 ≤ R.frames ∧ 8 + (lM k + 11) + 64 * (d - 1) ≤ R.locals := by omega
  have hpre : PreS s H (va_Pc (av.map (cv B)) (aPre D dA B n mu ro sg)) (av.map (cv B)) := ⟨aPre_blind, fun U hU hW => ⟨rfl, by rw [hU]; exact hP, hkk.warm hW, hz.to (locs := locs) hW.alike (by rw [hU]; exact hS), by rw [hU]; exact hsz2⟩⟩
  have hrun : va_Run p l e R s m args below meth c H locs nc ns mc ms (F0 m pc ls (st.map (cv B))) (rest.map (cv B)) (aQ D dA B (fun r n' mu' ro' sg' => rtOk (rM k) r ∧ KA r n' mu' ro' sg') (av.map (cv B)).toArray) (fun q => B ≤ q) := by
    rcases k2 with k2 | k2
    · exact va_runS ⟨hx, hb, hml, hown, hts⟩ (hM l D dA B) ⟨callB_of (pM k) hts (good_k k1) rfl rfl rfl (hts _ o3) (hts _ k2) o6 hRR, hts _ (o1 hst)⟩ hpre rfl hlen hl.1 hstack hroom hdd hRm
    · exact va_runSN ⟨hx, hb, hml, hown, hts⟩ (hM l D dA B) ⟨va_cnB (pM k) hts (good_k k1) rfl rfl rfl (hkk.2.1 _ k2) (hts _ o3) o6 hRR, hts _ (o1 hst), trivial⟩ hpre rfl hlen hl.1 hstack hroom hdd hRm
  refine aw_call hrun hS (fun r n' mu' ro' sg' H1 locs1 hKA hP1 _ hS1 => ?_)
  have := hK r n' mu' ro' sg' hKA.2 H1 locs1 ls hP1 hS1 hl
  rw [map_app] at this
  exact this
/-- an instance's method is called, in general -/
theorem av_virtual {k i b : Nat} {av rest : List Value} {KA : Option Value → Nat → aM → aR → aS → Prop} (hC : Cx G mL d n0 o cc) (hn : n = n0 + nc) (hRm : Rm G (nc + mc) (ns + ms)) (hd : dk cc pc = some (.invokevirtual i)) (hk : cres o i = some k) (hst : sM k = false) (hin : (yM k).name ≠ "<init>") (hr8 : cs rest ≤ 8) (hd1 : 1 ≤ d) (hmb : (mu b).1 = 10 + oM k) (ht : takeA (pM k + 1) [] st = some (.ref b :: av, rest))
    (hM : aCallA mc ms (d - 1) k (.ref b :: av) n mu ro sg KA) (hK : ∀ r n' mu' ro' sg', KA r n' mu' ro' sg' → AW G mL n' (nc + mc) (ns + ms) mu' ro' sg' (pc + 3) L (r.toList ++ rest)) : AW G mL n nc ns mu ro sg pc L st := by
  obtain ⟨⟨p, l, e, R, s, m⟩, ⟨args, below, meth, c⟩, ⟨D, dA, B⟩, Q⟩ := G
  obtain ⟨hx, hb, hml, hown, hts, hlk, hkk, hz, h0, hf, hlo⟩ := hC
  obtain ⟨k1, k2⟩ := cres_ok hk
  obtain ⟨o1, o2, o3, o4, o5, o6, o7, o8⟩ := okM_spec k1
  obtain ⟨t, t1, t2, t3⟩ := takeA_ok _ _ _ _ _ ht
  intro H locs ls hP hS hl
  refine W.sized (fun hsz => ?_)
  have hsz2 := hP.size hS h0 hn hsz
  have hdd := dk_1 hd rfl
  have ht2 : t = av.reverse ++ [.ref b] := by
    have : t.reverse = .ref b :: av := by simpa using t2.symm
    have := congrArg List.reverse this
    simpa using this
  have hstack : st.map (cv B) = (av.map (cv B)).reverse ++ .ref (B + b) :: rest.map (cv B) := by rw [t1, ht2]; simp [cv]
  have hlen : (av.map (cv B)).length = pM k := by
    rw [ht2] at t3
    simpa using t3
  have hroom : 2 * (F0 m pc ls (st.map (cv B))).monitorRoom + ((rest.map (cv B)).map fun v => v.category).sum ≤ 8 := lv_room (by rw [cs_map]; exact hr8)
  have hRR : (d - 1) + 1 ≤ R.frames ∧ 8 + (lM k + 11) + 64 * (d - 1) ≤ R.locals := by omega
  have hbn : b < n := hP.lt (by rw [hmb]; omega)
  have he := aW_at (dA := dA) (B := B) (mu := mu) (ro := ro) (sg := sg) hbn
  rw [aE_obj (N := 0) hmb] at he
  have hpre : PreV s H (RN (oM k)) (B + b) (va_Pc ((Value.ref b :: av).map (cv B)) (aPre D dA B n mu ro sg)) (av.map (cv B)) := ⟨aPre_blind, va_recv hkk.1 hP.1 (vwCl_at _ (o8 hst)) he, fun U hU hW => ⟨rfl, by rw [hU]; exact hP, hkk.warm hW, hz.to (locs := locs) hW.alike (by rw [hU]; exact hS), by rw [hU]; exact hsz2⟩⟩
  have hrun : va_Run p l e R s m args below meth c H locs nc ns mc ms (F0 m pc ls (st.map (cv B))) (rest.map (cv B)) (aQ D dA B (fun r n' mu' ro' sg' => rtOk (rM k) r ∧ KA r n' mu' ro' sg') (Value.ref (B + b) :: av.map (cv B)).toArray) (fun q => B ≤ q) := by
    rcases k2 with k2 | k2
    · exact va_runV ⟨hx, hb, hml, hown, hts⟩ (hM l D dA B) ⟨callB_of (pM k) hts (good_k k1) rfl rfl rfl (hts _ o3) (hts _ k2) o6 hRR, hts _ (o2 hst), hts _ (o4 hst hin)⟩ hpre rfl hlen hl.1 hstack hroom hdd hRm
    · exact va_runVN ⟨hx, hb, hml, hown, hts⟩ (hM l D dA B) ⟨va_cnB (pM k) hts (good_k k1) rfl rfl rfl (hkk.2.1 _ k2) (hts _ o3) o6 hRR, hts _ (o2 hst), hts _ (o4 hst hin)⟩ hpre rfl hlen hl.1 hstack hroom hdd hRm
  refine aw_call hrun hS (fun r n' mu' ro' sg' H1 locs1 hKA hP1 _ hS1 => ?_)
  have := hK r n' mu' ro' sg' hKA.2 H1 locs1 ls hP1 hS1 hl
  rw [map_app] at this
  exact this
theorem sv_invokestatic {i : Nat} (hC : Cx G mL d n0 o cc) (hn : n = n0 + nc) (hRm : Rm G nc ns) (hL : L.length ≤ mL) (hK : ∀ pc L st sg, L.length ≤ mL → K pc L st sg → AW G mL n nc ns mu ro sg pc L st) (hd : dk cc pc = some (.invokestatic i)) (h : vcI K Rt o d n mu ro pc L st sg (.invokestatic i)) : AW G mL n nc ns mu ro sg pc L st := by
  simp only [vcI] at h
  cases hk : cres o i with
  | none => rw [hk] at h; exact h.elim
  | some k =>
    rw [hk] at h
    simp only [inS] at h
    split at h
    · next av rest ht =>
      obtain ⟨h1, h2, h3, h4⟩ := h
      refine av_static (mc := 0) (ms := 0) hC hn hRm hd hk h1 h2 h3 ht h4 (fun r n' mu' ro' sg' hq => ?_)
      obtain ⟨rfl, rfl, rfl, hq⟩ := hq
      exact hK _ _ _ _ hL hq
    · exact h.elim
theorem sv_invokevirtual {i : Nat} (hC : Cx G mL d n0 o cc) (hn : n = n0 + nc) (hRm : Rm G nc ns) (hL : L.length ≤ mL) (hK : ∀ pc L st sg, L.length ≤ mL → K pc L st sg → AW G mL n nc ns mu ro sg pc L st) (hd : dk cc pc = some (.invokevirtual i)) (h : vcI K Rt o d n mu ro pc L st sg (.invokevirtual i)) : AW G mL n nc ns mu ro sg pc L st := by
  simp only [vcI] at h
  cases hk : cres o i with
  | none => rw [hk] at h; exact h.elim
  | some k =>
    rw [hk] at h
    simp only [inV] at h
    split at h
    · next b av rest ht =>
      obtain ⟨h1, h2, h3, h4, h5, h6⟩ := h
      refine av_virtual (mc := 0) (ms := 0) hC hn hRm hd hk h1 h2 h3 h4 h5 ht h6 (fun r n' mu' ro' sg' hq => ?_)
      obtain ⟨rfl, rfl, rfl, hq⟩ := hq
      exact hK _ _ _ _ hL hq
    · exact h.elim
theorem swL_ok {KN : Nat → Prop} {pc : Nat} {x : Int32} : ∀ (os : List Int) (lo : Int), swL KN pc x os lo → ∀ (j : Nat) (off : Int), os[j]? = some off → x.toInt = lo + j → jok pc off = true ∧ KN (jmp pc off)
  | [], lo, _, j, off, h, _ => by simp at h
  | o1 :: os, lo, h, j, off, hj, hx => by
    cases j with
    | zero =>
      simp at hj
      subst hj
      exact h.1 (by simpa using hx)
    | succ j => exact swL_ok os (lo + 1) h.2 j off (by simpa using hj) (by push_cast at hx; omega)
theorem sv_tableswitch {dflt lo hi : Int} {offs : Array Int} (hC : Cx G mL d n0 o cc) (hL : L.length ≤ mL) (hK : ∀ pc L st sg, L.length ≤ mL → K pc L st sg → AW G mL n nc ns mu ro sg pc L st) (hd : dk cc pc = some (.tableswitch dflt lo hi offs)) (h : vcI K Rt o d n mu ro pc L st sg (.tableswitch dflt lo hi offs)) : AW G mL n nc ns mu ro sg pc L st := by
  obtain ⟨len, hdd, -⟩ := dk_ok hd
  obtain ⟨⟨p, l, e, R, s, m⟩, ⟨args, below, meth, c⟩, ⟨D, dA, B⟩, Q⟩ := G
  obtain ⟨hx, hb, hml, hown, hts, hlk, hkk, hz, h0, hf, hlo⟩ := hC
  intro H locs ls hP hS hl
  simp only [vcI] at h
  split at h
  · next x st1 =>
    obtain ⟨h1, h2, h3, h4, h5⟩ := h
    by_cases hout : x.toInt < lo ∨ hi < x.toInt
    · exact lv_tableOut hx hb hdd hout (jmp_ok h1) (hK _ _ _ _ hL (h4 hout) H locs ls hP hS hl)
    · have q1 : ¬ x.toInt < lo := fun q => hout (Or.inl q)
      have q2 : ¬ hi < x.toInt := fun q => hout (Or.inr q)
      have hj : (x.toInt - lo).toNat < offs.size := by rw [h2]; omega
      have ho : offs[(x.toInt - lo).toNat]? = some offs[(x.toInt - lo).toNat] := Array.getElem?_eq_getElem hj
      obtain ⟨g1, g2⟩ := swL_ok offs.toList lo h5 (x.toInt - lo).toNat offs[(x.toInt - lo).toNat] (by rw [Array.getElem?_toList]; exact ho) (by omega)
      exact lv_tableIn hx hb hdd q1 q2 ho (jmp_ok g1) (hK _ _ _ _ hL g2 H locs ls hP hS hl)
  · exact h.elim
/-- what is returned is enough at the method's end -/
def RtOK (G : aG) (mL n nc ns : Nat) (mu : aM) (ro : aR) (cc : ByteArray) (Rt : Option Value → aS → Prop) : Prop :=
  (∀ x sg pc L, decode cc pc = .ok (.ireturn, 1) → Rt (some (.int x)) sg → AW G mL n nc ns mu ro sg pc L [.int x]) ∧ (∀ x sg pc L, decode cc pc = .ok (.lreturn, 1) → Rt (some (.long x)) sg → AW G mL n nc ns mu ro sg pc L [.long x])
  ∧ (∀ x sg pc L, decode cc pc = .ok (.areturn, 1) → Rt (some (.ref x)) sg → AW G mL n nc ns mu ro sg pc L [.ref x]) ∧ (∀ sg pc L, decode cc pc = .ok (.areturn, 1) → Rt (some .null) sg → AW G mL n nc ns mu ro sg pc L [.null]) ∧ (∀ sg pc L, decode cc pc = .ok (.return_, 1) → Rt none sg → AW G mL n nc ns mu ro sg pc L [])
theorem sv_ireturn (hR : RtOK G mL n nc ns mu ro cc Rt) (hd : dk cc pc = some .ireturn) (h : vcI K Rt o d n mu ro pc L st sg .ireturn) : AW G mL n nc ns mu ro sg pc L st := by
  simp only [vcI] at h
  split at h
  · exact hR.1 _ _ _ _ (dk_1 hd rfl) h
  · exact h.elim
theorem sv_lreturn (hR : RtOK G mL n nc ns mu ro cc Rt) (hd : dk cc pc = some .lreturn) (h : vcI K Rt o d n mu ro pc L st sg .lreturn) : AW G mL n nc ns mu ro sg pc L st := by
  simp only [vcI] at h
  split at h
  · exact hR.2.1 _ _ _ _ (dk_1 hd rfl) h
  · exact h.elim
theorem sv_areturn (hR : RtOK G mL n nc ns mu ro cc Rt) (hd : dk cc pc = some .areturn) (h : vcI K Rt o d n mu ro pc L st sg .areturn) : AW G mL n nc ns mu ro sg pc L st := by
  simp only [vcI] at h
  split at h
  · exact hR.2.2.1 _ _ _ _ (dk_1 hd rfl) h
  · exact hR.2.2.2.1 _ _ _ (dk_1 hd rfl) h
  · exact h.elim
theorem sv_return (hR : RtOK G mL n nc ns mu ro cc Rt) (hd : dk cc pc = some .return_) (h : vcI K Rt o d n mu ro pc L st sg .return_) : AW G mL n nc ns mu ro sg pc L st := by
  simp only [vcI] at h
  split at h
  · exact hR.2.2.2.2 _ _ _ (dk_1 hd rfl) h
  · exact h.elim
end SND2
