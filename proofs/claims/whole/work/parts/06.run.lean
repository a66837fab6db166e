/-! part 06: the run of many instructions; how a contract begins, how it ends -/
section SND3
variable {G : aG} {mL d n0 o n nc ns pc : Nat} {cc : ByteArray} {mu : aM} {ro : aR} {sg : aS} {L st : List Value} {K : Nat → List Value → List Value → aS → Prop} {Rt : Option Value → aS → Prop}
theorem vcI_sound {ins : Instr} (hC : Cx G mL d n0 o cc) (hn : n = n0 + nc) (hRm : Rm G nc ns) (hR : RtOK G mL n nc ns mu ro cc Rt) (hL : L.length ≤ mL) (hK : ∀ pc L st sg, L.length ≤ mL → K pc L st sg → AW G mL n nc ns mu ro sg pc L st) (hd : dk cc pc = some ins) (h : vcI K Rt o d n mu ro pc L st sg ins) : AW G mL n nc ns mu ro sg pc L st := by
  cases ins with
  | iconst _ => exact sv_iconst hC hL hK hd h
  | bipush _ => exact sv_bipush hC hL hK hd h
  | sipush _ => exact sv_sipush hC hL hK hd h
  | lconst _ => exact sv_lconst hC hL hK hd h
  | aconst_null  => exact sv_null hC hL hK hd h
  | ldc _ => exact sv_ldc hC hL hK hd h
  | ldc_w _ => exact sv_ldcw hC hL hK hd h
  | ldc2_w _ => exact sv_ldc2 hC hL hK hd h
  | iload_n _ => exact sv_iload_n hC hL hK hd h
  | iload _ => exact sv_iload hC hL hK hd h
  | lload_n _ => exact sv_lload_n hC hL hK hd h
  | lload _ => exact sv_lload hC hL hK hd h
  | aload_n _ => exact sv_aload_n hC hL hK hd h
  | aload _ => exact sv_aload hC hL hK hd h
  | istore_n _ => exact sv_istore_n hC hL hK hd h
  | istore _ => exact sv_istore hC hL hK hd h
  | lstore_n _ => exact sv_lstore_n hC hL hK hd h
  | lstore _ => exact sv_lstore hC hL hK hd h
  | astore_n _ => exact sv_astore_n hC hL hK hd h
  | astore _ => exact sv_astore hC hL hK hd h
  | iinc _ _ => exact sv_iinc hC hL hK hd h
  | iadd  => exact sv_iadd hC hL hK hd h
  | isub  => exact sv_isub hC hL hK hd h
  | imul  => exact sv_imul hC hL hK hd h
  | iand  => exact sv_iand hC hL hK hd h
  | ior  => exact sv_ior hC hL hK hd h
  | ixor  => exact sv_ixor hC hL hK hd h
  | ishl  => exact sv_ishl hC hL hK hd h
  | ishr  => exact sv_ishr hC hL hK hd h
  | ladd  => exact sv_ladd hC hL hK hd h
  | lsub  => exact sv_lsub hC hL hK hd h
  | land  => exact sv_land hC hL hK hd h
  | lor  => exact sv_lor hC hL hK hd h
  | iushr  => exact sv_iushr hC hL hK hd h
  | lshl  => exact sv_lshl hC hL hK hd h
  | lshr  => exact sv_lshr hC hL hK hd h
  | i2l  => exact sv_i2l hC hL hK hd h
  | i2b  => exact sv_i2b hC hL hK hd h
  | i2s  => exact sv_i2s hC hL hK hd h
  | idiv  => exact sv_idiv hC hL hK hd h
  | irem  => exact sv_irem hC hL hK hd h
  | ldiv  => exact sv_ldiv hC hL hK hd h
  | lrem  => exact sv_lrem hC hL hK hd h
  | lcmp  => exact sv_lcmp hC hL hK hd h
  | dup  => exact sv_dup hC hL hK hd h
  | dup2  => exact sv_dup2 hC hL hK hd h
  | pop  => exact sv_pop hC hL hK hd h
  | goto _ => exact sv_goto hC hL hK hd h
  | ifnull _ => exact sv_ifnull hC hL hK hd h
  | ifnonnull _ => exact sv_ifnonnull hC hL hK hd h
  | getfield _ => exact sv_getfield hC hL hK hd h
  | putfield _ => exact sv_putfield hC hL hK hd h
  | iaload  => exact sv_iaload hC hL hK hd h
  | baload  => exact sv_baload hC hL hK hd h
  | iastore  => exact sv_iastore hC hL hK hd h
  | bastore  => exact sv_bastore hC hL hK hd h
  | aaload  => exact sv_aaload hC hL hK hd h
  | arraylength  => exact sv_alen hC hL hK hd h
  | ifCond cnd off => cases cnd with
    | eq => exact sv_if_eq hC hL hK hd h
    | ne => exact sv_if_ne hC hL hK hd h
    | lt => exact sv_if_lt hC hL hK hd h
    | ge => exact sv_if_ge hC hL hK hd h
    | gt => exact sv_if_gt hC hL hK hd h
    | le => exact sv_if_le hC hL hK hd h
  | if_icmp cnd off => cases cnd with
    | eq => exact sv_icmp_eq hC hL hK hd h
    | ne => exact sv_icmp_ne hC hL hK hd h
    | lt => exact sv_icmp_lt hC hL hK hd h
    | ge => exact sv_icmp_ge hC hL hK hd h
    | gt => exact sv_icmp_gt hC hL hK hd h
    | le => exact sv_icmp_le hC hL hK hd h
  | tableswitch _ _ _ _ => exact sv_tableswitch hC hL hK hd h
  | invokestatic _ => exact sv_invokestatic hC hn hRm hL hK hd h
  | invokevirtual _ => exact sv_invokevirtual hC hn hRm hL hK hd h
  | ireturn => exact sv_ireturn hR hd h
  | lreturn => exact sv_lreturn hR hd h
  | areturn => exact sv_areturn hR hd h
  | return_ => exact sv_return hR hd h
  | _ => exact False.elim h
end SND3
def vcS (K : Nat → List Value → List Value → aS → Prop) (Rt : Option Value → aS → Prop) (cc : ByteArray) (o d n : Nat) (mu : aM) (ro : aR) (pc : Nat) (L st : List Value) (sg : aS) : Option Instr → Prop
  | some ins => vcI K Rt o d n mu ro pc L st sg ins
  | none => False
/-- at most f instructions on, or till a pc of 'cut' -/
def vcC (G : aG) (mL nc ns : Nat) (cc : ByteArray) (o d n : Nat) (mu : aM) (ro : aR) (Rt : Option Value → aS → Prop) (cut : Nat → Bool) : Nat → Nat → List Value → List Value → aS → Prop
  | 0, pc, L, st, sg => AW G mL n nc ns mu ro sg pc L st
  | f + 1, pc, L, st, sg => if cut pc = true then AW G mL n nc ns mu ro sg pc L st else vcS (vcC G mL nc ns cc o d n mu ro Rt cut f) Rt cc o d n mu ro pc L st sg (dk cc pc)
/-- the run's law of a frame -/
def RP (G : aG) (mL nc ns : Nat) (cc : ByteArray) (o d n : Nat) (mu : aM) (ro : aR) (Rt : Option Value → aS → Prop) : Prop :=
  ∀ (cut : Nat → Bool) (f pc : Nat) (L st : List Value) (sg : aS), L.length ≤ mL → vcS (vcC G mL nc ns cc o d n mu ro Rt cut f) Rt cc o d n mu ro pc L st sg (dk cc pc) → AW G mL n nc ns mu ro sg pc L st
theorem RP_of {G : aG} {mL nc ns o d n n0 : Nat} {cc : ByteArray} {mu : aM} {ro : aR} {Rt : Option Value → aS → Prop} (hC : Cx G mL d n0 o cc) (hn : n = n0 + nc) (hRm : Rm G nc ns) (hR : RtOK G mL n nc ns mu ro cc Rt) : RP G mL nc ns cc o d n mu ro Rt := by
  have step : ∀ (KK : Nat → List Value → List Value → aS → Prop) (hKK : ∀ pc L st sg, L.length ≤ mL → KK pc L st sg → AW G mL n nc ns mu ro sg pc L st) (pc : Nat) (L st : List Value) (sg : aS), L.length ≤ mL → vcS KK Rt cc o d n mu ro pc L st sg (dk cc pc) → AW G mL n nc ns mu ro sg pc L st := by
    intro KK hKK pc L st sg hL h
    cases hd : dk cc pc with
    | none => rw [hd] at h; exact h.elim
    | some ins =>
      rw [hd] at h
      exact vcI_sound hC hn hRm hR hL hKK hd h
  have all : ∀ (cut : Nat → Bool) (f pc : Nat) (L st : List Value) (sg : aS), L.length ≤ mL → vcC G mL nc ns cc o d n mu ro Rt cut f pc L st sg → AW G mL n nc ns mu ro sg pc L st := by
    intro cut f
    induction f with
    | zero => exact fun pc L st sg _ h => h
    | succ f ih =>
      intro pc L st sg hL h
      unfold vcC at h
      split at h
      · exact h
      · exact step _ ih pc L st sg hL h
  exact fun cut f pc L st sg hL h => step _ (all cut f) pc L st sg hL h
theorem exL_len (B : Nat) : ∀ av : List Value, (lg_sl (av.map (cv B))).length = (exL av).length
  | [] => rfl
  | a :: r => by
    have ih := exL_len B r
    have key : lg_sl ((a :: r).map (cv B)) = (if (cv B a).category = 2 then [Slot.val (cv B a), .second] else [Slot.val (cv B a)]) ++ lg_sl (r.map (cv B)) := by simp [lg_sl]
    rw [key, List.length_append, ih]
    cases a <;> simp [cv, Value.category, exL] <;> omega
theorem fent {p : Program} {l : Launch} {e : Env} {R : Room} {s : State} {m : MethodId} {args : Array Value} {below : List Frame} {meth : Method} {c : Code} {Q : State → Prop} {D : va_G} {dA : Nat → ClassId} {B mL n t : Nat} {mu : aM} {ro : aR} {sg : aS} {av : List Value} (hl : (exL av).length ≤ mL) (hP : aP D dA B n mu ro sg s.heap)
    (h : AW ((p, l, e, R, s, m), (args, below, meth, c), (D, dA, B), Q) mL n 0 0 mu ro sg 0 (exL av ++ List.replicate t (.float 0)) []) : W p l e R s m args below meth c s.heap [] 0 0 Q (entryFrame m (av.map (cv B)).toArray mL) := by
  rw [lg_entry_eq]
  exact h s.heap [] _ hP va_S.rf (aLf_entry (lv_entry (av.map (cv B)) (by rw [exL_len]; exact hl)))
/-- a contract begins: what makes nothing -/
theorem aCall_start {k d n mL o : Nat} {cc : ByteArray} {ret : Option FieldType} {av : List Value} {mu : aM} {ro : aR} {sg : aS} {K : Option Value → aS → Prop} (t : Nat) (hk : k < 255) (hpl : plainName (yM k).cls = true) (hm : lM k = mL) (hc : cM k = cc) (ho : oM k = o) (hr : rM k = ret) (hl : (exL av).length ≤ mL)
    (h : ∀ G : aG, Cx G mL d n o cc → RP G mL 0 0 cc o d n mu ro (fun r sg' => rtOk ret r ∧ K r sg') → AW G mL n 0 0 mu ro sg 0 (exL av ++ List.replicate t (.float 0)) []) : aCall d k av n mu ro sg K := by
  intro l D dA B
  subst hm; subst hc; subst ho; subst hr
  refine Met.ofW (cc := cM k) (maxL := lM k) (ret := rM k) hpl rfl ?_
  intro p e s m args below meth c s₁ BB hml hv
  obtain ⟨rfl, hP, hK, hZ, hsz⟩ := hv
  refine fent (t := t) hl hP ?_
  have hC : Cx ((p, l, e, (headSpec (Cond.code (yM k) (cM k) (lM k) (rM k) :: tgw) { frames := d, cells := 0, slots := 0, locals := 64 * d }).room, s, m), ((av.map (cv B)).toArray, below, meth, c), (D, dA, B), MQ below (aQ D dA B (fun r n' mu' ro' sg' => rtOk (rM k) r ∧ n' = n ∧ mu' = mu ∧ ro' = ro ∧ K r sg')) (av.map (cv B)).toArray s 0 0 (fun q => B ≤ q)) (lM k) d n (oM k) (cM k) := by
    refine ⟨BB.exec, BB.bytes, hml, ?_, fun w hw => atoms_spec (ws := Cond.code (yM k) (cM k) (lM k) (rM k) :: tgw) BB.pre w (List.mem_cons_of_mem _ hw), BB.notSynchronized, hK, hZ, hsz, Nat.le_refl _, Nat.le_refl _⟩
    rw [← (okM_spec hk).2.2.2.2.1]
    exact findClass_of_methodNamed BB.named
  refine h _ hC (RP_of hC rfl ⟨Nat.le_refl _, Nat.le_refl _⟩ ?_)
  have hlk := BB.notSynchronized
  have hbk : ∀ (r : Option Value) (sg' : aS) (H : Heap) (locs : List Loc), rtOk (rM k) r → K r sg' → aP D dA B n mu ro sg' H → va_S (fun q => B ≤ q) s.heap H locs → H.size ≤ s.heap.size + 0 → ∀ t : State, t.heap = H → s.WarmedH t.vm → aQ D dA B (fun r n' mu' ro' sg' => rtOk (rM k) r ∧ n' = n ∧ mu' = mu ∧ ro' = ro ∧ K r sg') (av.map (cv B)).toArray s (.returned (r.map (cv B))) t := by
    intro r sg' H locs hk0 hk1 hp1 hs1 hz1 t ht _
    exact ⟨⟨r, n, mu, ro, sg', rfl, ⟨hk0, rfl, rfl, rfl, hk1⟩, by rw [ht]; exact hp1, by rw [ht]; exact hp1.size hs1 hsz rfl hz1⟩, hs1.F ht⟩
  refine ⟨fun x sg' pc L hdg hq H locs ls hP1 hS1 hl1 => W.sized fun hz1 => ?_, fun x sg' pc L hdg hq H locs ls hP1 hS1 hl1 => W.sized fun hz1 => ?_, fun x sg' pc L hdg hq H locs ls hP1 hS1 hl1 => W.sized fun hz1 => ?_, fun sg' pc L hdg hq H locs ls hP1 hS1 hl1 => W.sized fun hz1 => ?_, fun sg' pc L hdg hq H locs ls hP1 hS1 hl1 => W.sized fun hz1 => ?_⟩
  · obtain ⟨q1, q2⟩ := hq
    have hq9 := hbk _ _ H locs q1 q2 hP1 hS1 hz1
    have hr := BB.returns
    generalize rM k = rt at hr q1 hq9 ⊢
    match rt, q1 with
    | some .int, _ => exact W.iret BB.exec BB.bytes hr hq9 hS1.2.2 hdg
    | some .boolean, q1 =>
      refine W.zret BB.exec BB.bytes hr ?_ hq9 hS1.2.2 hdg
      rcases q1 with rfl | rfl <;> decide
  · obtain ⟨q1, q2⟩ := hq
    have hq9 := hbk _ _ H locs q1 q2 hP1 hS1 hz1
    have hr := BB.returns
    generalize rM k = rt at hr q1 hq9 ⊢
    match rt, q1 with
    | some .long, _ => exact W.lret BB.exec BB.bytes hr hq9 hS1.2.2 hdg
  · obtain ⟨q1, q2⟩ := hq
    have hq9 := hbk _ _ H locs q1 q2 hP1 hS1 hz1
    have hr := BB.returns
    generalize rM k = rt at hr q1 hq9 ⊢
    match rt, q1 with
    | some (.object nn), _ => exact W.aret BB.exec BB.bytes hr (Or.inl ⟨nn, rfl⟩) (Or.inr ⟨_, rfl⟩) hq9 hS1.2.2 hdg
  · obtain ⟨q1, q2⟩ := hq
    have hq9 := hbk _ _ H locs q1 q2 hP1 hS1 hz1
    have hr := BB.returns
    generalize rM k = rt at hr q1 hq9 ⊢
    match rt, q1 with
    | some (.object nn), _ => exact W.aret BB.exec BB.bytes hr (Or.inl ⟨nn, rfl⟩) (Or.inl rfl) hq9 hS1.2.2 hdg
  · obtain ⟨q1, q2⟩ := hq
    have hq9 := hbk _ _ H locs q1 q2 hP1 hS1 hz1
    have hr := BB.returns
    generalize rM k = rt at hr q1 hq9 ⊢
    match rt, q1 with
    | none, _ => exact W.vret BB.exec BB.bytes hr hq9 hS1.2.2 hdg
    | some ft, q1 => cases ft <;> exact q1.elim
